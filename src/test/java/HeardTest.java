/** Promises 16 to 21: what was heard, odds. */
public final class HeardTest {
    private static final Check check = new Check();

    public static void main(String[] args) {
        reading();
        back();
        holds();
        hearing();
        kinds();
        odds();
        oddsRefused();
        check.end();
    }

    private static void reading() {
        check.part("promise 16: reading");
        FortyJars x = Jars.of("y14;m1..w0");
        check.due("man ahead", x.reading(2, 0, true), Jars.UNKNOWN);
        check.due("man", x.reading(-1, 0, true), Jars.UNKNOWN);
        check.due("cell", x.reading(0, 4, true), Jars.UNKNOWN);
        check.due("cell", x.reading(0, -1, false), Jars.UNKNOWN);
        for (int k = 0; k < 8; k++) {
            check.due("many(5)", x.many(5), k);
            check.due("reading " + k, x.reading(k % 2, k % 4, k % 3 == 0), k);
        }
        check.due("the ninth", x.reading(0, 0, true), Jars.FULL);
        check.due("unknown ahead of full", x.reading(2, 0, true), Jars.UNKNOWN);
        check.due("unknown ahead of full", x.reading(0, 4, true), Jars.UNKNOWN);
        check.due("many(5)", x.many(5), 8);
    }

    private static void back() {
        check.part("promise 17: back");
        FortyJars x = new FortyJars();
        check.due("back(0), no yard", x.back(0), 0);
        check.due("back(1), no yard", x.back(1), Jars.OUTSIDE);
        Jars.take(x, "y14;m1..w0");
        x.reading(0, 0, true);
        x.reading(0, 2, true);
        x.reading(0, 1, true);
        check.due("holds()", x.holds(), 0);
        check.due("back(4)", x.back(4), Jars.OUTSIDE);
        check.due("back(-1)", x.back(-1), Jars.OUTSIDE);
        check.due("back(0)", x.back(0), 3);
        check.due("back(1)", x.back(1), 2);
        check.due("holds()", x.holds(), 0);
        check.due("back(1)", x.back(1), 1);
        check.due("the last ones go", x.holds(), 1);
        check.due("the next one's number", x.reading(0, 3, false), 1);
        check.due("back(2)", x.back(2), 0);
        check.due("many(5)", x.many(5), 0);
    }

    private static void holds() {
        check.part("promise 18: holds");
        FortyJars x = new FortyJars();
        check.due("no yard", x.holds(), Jars.STATE);
        Jars.take(x, "y14;m1..w0");
        check.due("no readings", x.holds(), 1);
        x.reading(0, 1, true);
        x.reading(0, 2, false);
        x.reading(1, 2, true);
        x.reading(1, 1, false);
        check.due("all so", x.holds(), 1);
        x.doze(0, true);
        x.doze(1, true);
        check.due("all awake", x.holds(), 1);
        x.reading(0, 1, false);
        check.due("one is not so", x.holds(), 0);
        x.back(1);
        x.reading(1, 0, true);
        check.due("one is not so", x.holds(), 0);
    }

    private static void hearing() {
        check.part("promise 19: hearing");
        FortyJars x = Jars.of("y16;m1....c0");
        check.due("no readings", x.hearing(0), 63);
        x.reading(0, 2, true);
        check.due("2 far is heard", x.hearing(0), 60);
        check.due("the other's are not so", x.hearing(1), 0);
        x.reading(0, 4, false);
        check.due("4 far is not", x.hearing(0), 12);
        check.due("holds()", x.holds(), 0);
        check.due("his ear is as it was", x.ofMan(0, 1), 1);
        x.back(2);
        x.reading(1, 2, false);
        check.due("a chief, 3 far", x.hearing(1), 1);
        check.due("man 0", x.hearing(0), 63);
        x.back(1);
        x.reading(1, 1, true);
        check.due("a chief, 4 far", x.hearing(1), 62);
        check.due("man 0", x.hearing(0), 0);
        x.doze(1, true);
        check.due("all awake", x.hearing(1), 62);
        check.due("hearing(2)", x.hearing(2), Jars.UNKNOWN);
        check.due("hearing(-1)", x.hearing(-1), Jars.UNKNOWN);
    }

    private static void kinds() {
        check.part("promise 20: kinds");
        FortyJars x = Jars.of("y16;m1....w1");
        check.due("no readings", x.kinds(0), 7);
        x.reading(0, 2, true);
        check.due("2 far is heard", x.kinds(0), 6);
        check.due("the other's are not so", x.kinds(1), 0);
        x.reading(0, 3, true);
        check.due("3 far is heard", x.kinds(0), 4);
        x.reading(0, 5, true);
        check.due("5 far is heard", x.kinds(0), 0);
        x.back(3);
        x.reading(1, 2, false);
        check.due("man 1, 3 far", x.kinds(1), 3);
        x.reading(1, 4, true);
        check.due("man 1, 1 far", x.kinds(1), 3);
        x.reading(1, 3, false);
        check.due("man 1, 2 far", x.kinds(1), 1);
        check.due("his kind is as it was", x.ofMan(1, 0), 1);
        check.due("kinds(2)", x.kinds(2), Jars.UNKNOWN);
        check.due("kinds(-1)", x.kinds(-1), Jars.UNKNOWN);
    }

    private static void share(FortyJars x, long lower, int... steps) {
        check.due("upper", Jars.odds(x, 0, steps), 1);
        check.due("lower", Jars.odds(x, 1, steps), lower);
    }

    private static void odds() {
        check.part("promise 21: odds");
        FortyJars x = Jars.of("y14;oc0m0m1");
        x.can(6);
        share(x, 1);
        share(x, 1, 6, 0);
        share(x, 2, 6, 2);
        share(x, 4, 6, 1);
        share(x, 4, 6, 1, 2);
        share(x, 2, 6, 0, 1);
        share(x, 1, 6, 0, 2, 1);
        x.doze(0, true);
        x.doze(2, true);
        share(x, 4, 6, 1);
        Jars.take(x, "y24;oc5c5c5;c5c5c5.");
        share(x, 32, 6, 0);
        x.can(2);
        share(x, 32, 6, 0, 6, 1, 2);
        Jars.take(x, "y12;o.");
        share(x, 1, 6);
    }

    private static void lost(FortyJars x, int sheet, int lane, int i, int n, int which, int fault) {
        check.due("odds", x.odds(sheet, lane, i, n, which), Jars.LOST);
        check.due("fault()", x.fault(), fault);
    }

    private static void oddsRefused() {
        check.part("promise 21: lost, and its fault");
        FortyJars x = new FortyJars();
        x.put(0, 0, 0);
        lost(x, 4, 0, 0, 0, 0, 0);
        x.put(0, 0, 0);
        lost(x, 0, 3, 0, 0, 0, 0);
        x.put(0, 0, 0);
        lost(x, 0, 0, 0, 0, 0, 0);
        Jars.take(x, "y14;oc0m0m1");
        lost(x, 0, 0, -1, 1, 0, 1);
        Jars.write(x, 0, 0, 6, 0, 0, 3);
        lost(x, 0, 1, -1, 1, 0, 2);
        lost(x, 0, 0, -1, 1, 0, 3);
        lost(x, 0, 0, 5, 0, 0, 3);
        lost(x, 0, 0, 3, 1, 0, 0);
        x.put(0, 9, 0);
        lost(x, 0, 0, -1, 1, 2, 0);
        x.put(0, 9, 0);
        lost(x, 0, 0, -1, 1, -1, 0);
        x.put(0, 9, 0);
        lost(x, 0, 0, -1, 21, 0, 0);
        x.put(0, 9, 0);
        lost(x, 0, 0, -1, -1, 0, 0);
        lost(x, 0, 0, 0, 1, 2, 0);
        x.put(0, 9, 0);
        lost(x, 0, 0, 0, 3, 0, 0);
        lost(x, 0, 0, 1, 1, 1, 0);
        check.due("a plan that can be", x.odds(0, 0, 0, 2, 1), 1);
        check.due("fault()", x.fault(), 0);
    }
}
