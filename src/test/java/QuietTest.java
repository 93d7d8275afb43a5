/** Promises 11 to 15: quiet orders, the soonest. */
public final class QuietTest {
    private static final Check check = new Check();

    public static void main(String[] args) {
        quiet();
        stuck();
        soonest();
        most();
        without();
        check.end();
    }

    private static void row(FortyJars x, int... men) {
        for (int k = 0; k < men.length; k++) check.due("quiet(" + k + ")", x.quiet(k), men[k]);
        check.due("quiet behind the last", x.quiet(men.length), Jars.NONE);
    }

    private static void quiet() {
        check.part("promise 11: quiet");
        FortyJars x = new FortyJars();
        check.due("quiet(-1), no yard", x.quiet(-1), Jars.UNKNOWN);
        check.due("quiet(0), no yard", x.quiet(0), Jars.STATE);
        Jars.take(x, "y14;m0m1c0.");
        // 1 hears 0 and 2; 2 hears all; none of the others is heard by 0: so 2 is heard by 1, 1 by 2
        row(x);
        x.doze(1, true);
        row(x, 2, 0, 1);
        x.doze(2, true);
        row(x, 0, 1, 2);
        x.doze(1, false);
        row(x, 1, 0, 2);
        check.due("quiet(-1)", x.quiet(-1), Jars.UNKNOWN);
        check.due("quiet(3)", x.quiet(3), Jars.NONE);
        check.due("quiet(max)", x.quiet(Integer.MAX_VALUE), Jars.NONE);
        Jars.take(x, "y16;m0.m1.m0m1");
        row(x, 0, 1, 3, 2);
        Jars.take(x, "y12;.o");
        row(x);
        Jars.take(x, "y12;c5.");
        row(x, 0);
    }

    private static void stuck() {
        check.part("promise 12: stuck");
        FortyJars x = new FortyJars();
        check.due("no yard", x.stuck(), Jars.STATE);
        Jars.take(x, "y12;..");
        check.due("no men", x.stuck(), 0);
        Jars.take(x, "y16;w0w0.m0.m2");
        check.due("0 and 1 hear each other", x.stuck(), 3);
        check.due("quiet(0)", x.quiet(0), Jars.NONE);
        x.doze(0, true);
        check.due("0 sleeps", x.stuck(), 0);
        Jars.take(x, "y14;m0m1c0.");
        check.due("all are left", x.stuck(), 7);
        Jars.take(x, "y16;m3m0.o.m5");
        check.due("0 and 2 are far, 2 hears 0", x.stuck(), 0);
        Jars.take(x, "y16;m5m0.o.m5");
        check.due("0 and 2 hear all", x.stuck(), 7);
    }

    private static void soonest() {
        check.part("promise 13: soonest");
        FortyJars x = new FortyJars();
        check.due("no yard", x.soonest(), Jars.STATE);
        Jars.take(x, "y12;..");
        check.due("no men", x.soonest(), 0);
        Jars.take(x, "y12;m0.");
        check.due("no oil", x.soonest(), Jars.NONE);
        Jars.take(x, "y12;m0o");
        check.due("one", x.soonest(), 4);
        Jars.take(x, "y13;om0m0");
        check.due("can 1", x.soonest(), 1 + 2 + 2 + 3);
        x.can(2);
        check.due("can 2", x.soonest(), 1 + 2 + 2);
        Jars.take(x, "y16;m0o.o.m0");
        check.due("two oils", x.soonest(), 2 + 2 + 4 + 3);
        x.can(2);
        check.due("two oils, can 2", x.soonest(), 2 + 2 + 6);
        Jars.take(x, "y13;om0m1");
        x.can(2);
        check.due("1 ahead of 0", x.soonest(), 1 + 3 + 2);
        x.doze(1, true);
        check.due("1 sleeps", x.soonest(), 1 + 2 + 2);
        Jars.take(x, "y13;ow0w0");
        check.due("both hear", x.soonest(), Jars.NONE);
        Jars.take(x, "y16;om0m0.om0");
        x.can(2);
        check.due("fills her can ahead of its end", x.soonest(), 1 + 2 + 2 + 3 + 2);
        x.can(3);
        check.due("can 3", x.soonest(), 1 + 2 + 2 + 4);
    }

    private static void most() {
        check.part("promise 14: most");
        FortyJars x = new FortyJars();
        check.due("no yard", x.most(), Jars.STATE);
        Jars.take(x, "y14;om0m0m0");
        int[][] want = {{0, 0}, {2, 0}, {3, 1}, {7, 1}, {8, 3}, {14, 3}, {15, 7}, {99, 7}};
        for (int[] pair : want) {
            x.delay(pair[0]);
            check.due("most, sign " + pair[0], x.most(), pair[1]);
        }
        x.can(2);
        x.delay(5);
        check.due("can 2", x.most(), 3);
        Jars.take(x, "y14;m0om0.");
        x.delay(4);
        check.due("of several the least", x.most(), 1);
        Jars.take(x, "y14;m1om1.");
        check.due("0 and 1 hear 1 far alone", x.most(), 3);
        Jars.take(x, "y14;m2om1.");
        check.due("0 first", x.most(), 3);
        x.delay(5);
        check.due("0 alone in time", x.most(), 1);
        Jars.take(x, "y16;.ow0w0.m0");
        check.due("those who hear each other are left", x.most(), 4);
        Jars.take(x, "y16;..w0w0.m0");
        check.due("no oil", x.most(), 0);
        Jars.take(x, "y12;.o");
        check.due("no men", x.most(), 0);
    }

    private static void without() {
        check.part("promise 15: without");
        FortyJars x = Jars.of("y13;ow0w0");
        check.due("without(0)", x.without(0), 4);
        check.due("without(1)", x.without(1), 3);
        check.due("without(2)", x.without(2), Jars.UNKNOWN);
        check.due("without(-1)", x.without(-1), Jars.UNKNOWN);
        check.due("without(32)", x.without(32), Jars.UNKNOWN);
        check.due("soonest()", x.soonest(), Jars.NONE);
        check.due("all are there again", x.many(1), 2);
        Jars.take(x, "y12;m0.");
        check.due("nobody is left", x.without(0), 0);
        Jars.take(x, "y12;m0m0");
        check.due("no oil", x.without(0), Jars.NONE);
        Jars.take(x, "y15;ow0w0w0.");
        check.due("without(0): 1 and 2 hear", x.without(0), Jars.NONE);
        check.due("without(1)", x.without(1), 1 + 2 + 2 + 4);
        x.can(2);
        check.due("without(1), can 2", x.without(1), 1 + 2 + 3);
    }
}
