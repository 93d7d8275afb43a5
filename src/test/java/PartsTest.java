/** Promises 27 to 32: telling, asking, kinds, trace, fault, many. */
public final class PartsTest {
    private static final Check check = new Check();
    private static final String THREE = "y13;m3w2c4";

    public static void main(String[] args) {
        tell();
        ask();
        as();
        trace();
        fault();
        many();
        check.end();
    }

    private static int traceOf(int... bodies) {
        int trace = 0;
        for (int body : bodies) trace = 31 * trace + body;
        return trace;
    }

    private static void tell() {
        check.part("promise 27: tell");
        FortyJars x = Jars.of(THREE);
        check.due("a man", x.tell(0), 3);
        check.due("trace", x.trace(), traceOf(1));
        x = Jars.of(THREE);
        check.due("a watchful one", x.tell(1), 102);
        check.due("trace", x.trace(), traceOf(2, 1));
        x = Jars.of(THREE);
        check.due("a chief", x.tell(2), 108);
        check.due("trace", x.trace(), traceOf(3, 2, 1, 1));
        check.due("tell(3)", x.tell(3), Jars.UNKNOWN);
        check.due("tell(-1)", x.tell(-1), Jars.UNKNOWN);
        check.due("trace", x.trace(), traceOf(3, 2, 1, 1));
    }

    private static void ask() {
        check.part("promise 28: ask");
        FortyJars x = Jars.of(THREE);
        check.due("a man", x.ask(0), 0);
        check.due("a watchful one", x.ask(1), 1);
        check.due("trace", x.trace(), traceOf(4, 4));
        check.due("a chief", x.ask(2), 70);
        check.due("trace", x.trace(), traceOf(4, 4, 5));
        check.due("ask(3)", x.ask(3), Jars.UNKNOWN);
        check.due("ask(-1)", x.ask(-1), Jars.UNKNOWN);
        check.due("trace", x.trace(), traceOf(4, 4, 5));
    }

    private static void as() {
        check.part("promise 29: as");
        FortyJars x = Jars.of(THREE);
        for (int m = 0; m < 3; m++) {
            for (int kind = 0; kind < 3; kind++) {
                check.due("as(" + m + ", " + kind + ")", x.as(m, kind), kind <= m ? 1 : Jars.CAST);
                check.due("fault()", x.fault(), kind <= m ? 0 : 2);
            }
            check.due("kind", x.as(m, 3), Jars.OUTSIDE);
            check.due("kind", x.as(m, -1), Jars.OUTSIDE);
        }
        x.as(0, 2);
        check.due("as(3, 3)", x.as(3, 3), Jars.UNKNOWN);
        check.due("fault()", x.fault(), 0);
        x.as(0, 2);
        check.due("as(0, 3)", x.as(0, 3), Jars.OUTSIDE);
        check.due("fault()", x.fault(), 0);
        check.due("as(-1, 0)", x.as(-1, 0), Jars.UNKNOWN);
        check.due("kind as it was", x.ofMan(0, 0), 0);
        check.due("trace as it was", x.trace(), 0);
    }

    private static void trace() {
        check.part("promise 30: trace wraps, and stays as a text is taken");
        FortyJars x = Jars.of(THREE);
        int want = 0;
        for (int k = 0; k < 20; k++) {
            x.tell(2);
            x.ask(k % 3);
            for (int body : new int[] {3, 2, 1, 1, k % 3 == 2 ? 5 : 4}) want = 31 * want + body;
            check.due("trace()", x.trace(), want);
            if (k % 5 == 0) Jars.take(x, THREE);
        }
        check.due("asked twice", x.trace(), want);
    }

    private static void fault() {
        check.part("promise 31: fault is of the latest call that names one");
        FortyJars x = Jars.of(THREE);
        x.as(0, 1);
        check.due("of as()", x.fault(), 2);
        x.inside(0);
        x.ofMan(9, 0);
        x.far(0, 0);
        x.can(0);
        x.delay(3);
        x.doze(0, true);
        x.ears(0);
        x.quiet(0);
        x.stuck();
        x.soonest();
        x.most();
        x.without(0);
        x.reading(0, 0, true);
        x.back(1);
        x.holds();
        x.hearing(0);
        x.kinds(0);
        x.lose(0);
        x.lose(9);
        x.tell(2);
        x.ask(2);
        x.trace();
        x.many(9);
        check.due("these name none", x.fault(), 2);
        x.as(0, 1);
        x.sheet(0, 0, 1);
        check.due("sheet()", x.fault(), 0);
        x.as(0, 1);
        x.put(0, 0, 1);
        check.due("put()", x.fault(), 0);
        x.as(0, 1);
        x.cell(0, 0, 0);
        check.due("cell()", x.fault(), 0);
        x.as(0, 1);
        x.copy(0, 0, 0, 0, 1);
        check.due("copy()", x.fault(), 0);
        x.as(0, 1);
        x.yard(0, 0, 0, 0);
        check.due("yard()", x.fault(), 0);
        x.as(0, 1);
        x.plan(0, 0, 0, 0, 0);
        check.due("plan()", x.fault(), 0);
        x.as(0, 1);
        x.odds(0, 0, 0, 0, 0);
        check.due("odds()", x.fault(), 0);
        x.as(0, 1);
        x.as(0, 0);
        check.due("as()", x.fault(), 0);
    }

    private static void many() {
        check.part("promise 32: many");
        FortyJars x = Jars.of("y23;m0.o;w5c3.");
        x.can(5);
        x.delay(17);
        x.reading(0, 0, true);
        x.reading(0, 1, true);
        int[] want = {6, 3, 1, 5, 17, 2};
        for (int what = 0; what < 6; what++) check.due("many(" + what + ")", x.many(what), want[what]);
        check.due("many(6)", x.many(6), Jars.OUTSIDE);
        check.due("many(-1)", x.many(-1), Jars.OUTSIDE);
        check.due("many(6), no yard", new FortyJars().many(6), Jars.OUTSIDE);
    }
}
