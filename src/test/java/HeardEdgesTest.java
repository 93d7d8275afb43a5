/** Promises 16 to 21: the edges of readings, ears, kinds, odds. */
public final class HeardEdgesTest {
    private static final Check check = new Check();
    private static final int MIN = Integer.MIN_VALUE, MAX = Integer.MAX_VALUE;

    public static void main(String[] args) {
        eightReadings();
        againBehindBack();
        whoAndWhere();
        backEdges();
        backTakesTheLast();
        holdsEdges();
        awake();
        earSets();
        earsByKind();
        kindSets();
        kindsByEar();
        othersReadings();
        othersAsleep();
        oddsEdges();
        oddsInPlace();
        oddsCells();
        oddsOfWrong();
        check.end();
    }

    // ---- promises 16, 17

    private static void eightReadings() {
        check.part("promise 16: readings are numbered 0 .. 7; the ninth is FULL, what it would say does not matter");
        FortyJars x = Jars.of("y14;m1..w0");
        for (int k = 0; k < 8; k++) {
            check.due("many(5)", x.many(5), k);
            check.due("reading " + k, x.reading(0, 0, true), k);
        }
        check.due("the ninth", x.reading(0, 0, true), Jars.FULL);
        check.due("the ninth", x.reading(1, 3, false), Jars.FULL);
        check.due("many(5)", x.many(5), 8);
        check.due("the refused ones are no readings", x.holds(), 1);
        check.due("hearing(0)", x.hearing(0), 63);
        check.due("hearing(1)", x.hearing(1), 63);
        for (int far : new int[] {-1, 2, MIN, MAX}) {
            check.due("unknown ahead of full", x.reading(far, 0, true), Jars.UNKNOWN);
        }
        for (int far : new int[] {-1, 4, MIN, MAX}) {
            check.due("unknown ahead of full", x.reading(0, far, true), Jars.UNKNOWN);
        }
    }

    private static void againBehindBack() {
        check.part("promises 16, 17: as many as were taken back can be added, numbered by how many are ahead");
        FortyJars x = Jars.of("y14;m1..w0");
        for (int k = 0; k < 8; k++) x.reading(0, 3, true);
        check.due("none is so", x.holds(), 0);
        for (int k = 1; k <= 8; k++) {
            check.due("back(" + k + ")", x.back(k), 8 - k);
            for (int number = 8 - k; number < 8; number++) {
                check.due("reading", x.reading(0, 0, true), number);
            }
            check.due("the ninth", x.reading(0, 0, true), Jars.FULL);
            check.due("holds()", x.holds(), k < 8 ? 0 : 1);
        }
    }

    private static void whoAndWhere() {
        check.part("promise 16: each man and each cell that there is, none beyond");
        FortyJars x = Jars.of("y46;m0m0m0...;......;......;...m0m0m0");
        int[] places = {0, 1, 2, 21, 22, 23};
        for (int m = 0; m < 6; m++) {
            check.due("reading", x.reading(m, places[m], true), 0);
            check.due("in his own cell he hears it", x.holds(), 1);
            check.due("back", x.back(1), 0);
            check.due("reading", x.reading(m, 23 - places[m], true), 0);
            check.due("far off he does not", x.holds(), 0);
            check.due("back", x.back(1), 0);
        }
        for (int far : new int[] {-1, 24, MIN, MAX}) {
            check.due("cell " + far, x.reading(0, far, false), Jars.UNKNOWN);
            check.due("man " + far, x.reading(far, 0, false), Jars.UNKNOWN);
        }
        check.due("man 6", x.reading(6, 0, false), Jars.UNKNOWN);
        check.due("many(5)", x.many(5), 0);
        check.due("a yard of no men", Jars.of("y12;..").reading(0, 0, true), Jars.UNKNOWN);
    }

    private static void backEdges() {
        check.part("promise 17: k is 0 .. as many readings as there are");
        for (int readings = 0; readings <= 8; readings++) {
            FortyJars x = Jars.of("y14;m1..w0");
            for (int k = 0; k < readings; k++) x.reading(0, 1, true);
            for (int far : new int[] {-1, readings + 1, 9, MIN, MAX}) {
                check.due("back(" + far + ")", x.back(far), Jars.OUTSIDE);
            }
            check.due("back(0)", x.back(0), readings);
            check.due("many(5)", x.many(5), readings);
            check.due("back, all", x.back(readings), 0);
            check.due("back(1)", x.back(1), Jars.OUTSIDE);
            check.due("back(0)", x.back(0), 0);
        }
        FortyJars x = new FortyJars();
        check.due("back(0), no yard", x.back(0), 0);
        check.due("back(1), no yard", x.back(1), Jars.OUTSIDE);
        check.due("back(-1), no yard", x.back(-1), Jars.OUTSIDE);
    }

    private static void backTakesTheLast() {
        check.part("promise 17: the last ones are taken back");
        FortyJars x = Jars.of("y16;m0.....");
        for (int c = 0; c < 6; c++) x.reading(0, c, true);
        int[] sets = {63, 63, 62, 60, 56, 48, 32};
        for (int left = 6; left > 0; left--) {
            check.due("hearing(0), " + left + " left", x.hearing(0), sets[left]);
            check.due("back(1)", x.back(1), left - 1);
        }
        check.due("hearing(0), none left", x.hearing(0), 63);
    }

    // ---- promises 18 to 20

    private static void holdsEdges() {
        check.part("promise 18: a reading is so just as far as the man hears; no readings are all so");
        String[] men = {"m0", "m3", "w0", "w3", "c0", "c1"};
        int[] reach = {0, 3, 1, 4, 2, 4};
        for (int k = 0; k < men.length; k++) {
            FortyJars x = Jars.of("y16;" + men[k] + ".....");
            check.due("no readings", x.holds(), 1);
            for (int c = 0; c < 6; c++) {
                x.reading(0, c, true);
                check.due(men[k] + ", heard " + c + " far", x.holds(), c <= reach[k] ? 1 : 0);
                x.back(1);
                x.reading(0, c, false);
                check.due(men[k] + ", not heard " + c + " far", x.holds(), c <= reach[k] ? 0 : 1);
                x.back(1);
            }
        }
        FortyJars x = Jars.of("y16;m0.....");
        for (int k = 0; k < 8; k++) {
            x.reading(0, 0, k != 7);
            check.due("the last of eight is not so", x.holds(), k < 7 ? 1 : 0);
        }
        x.back(8);
        for (int k = 0; k < 8; k++) {
            x.reading(0, 0, k != 0);
            check.due("the first of eight is not so", x.holds(), 0);
        }
        check.due("a yard of no men", Jars.of("y12;..").holds(), 1);
        check.due("no yard", new FortyJars().holds(), Jars.STATE);
    }

    private static void awake() {
        check.part("promises 18, 19, 20: readings are of men awake, whoever sleeps now");
        FortyJars x = Jars.of("y14;m1..w0");
        x.doze(0, true);
        x.reading(0, 0, true);
        x.reading(0, 1, true);
        x.reading(0, 2, false);
        check.due("holds()", x.holds(), 1);
        check.due("hearing(0)", x.hearing(0), 2);
        check.due("kinds(0)", x.kinds(0), 1);
        x.doze(0, false);
        x.doze(1, true);
        check.due("holds()", x.holds(), 1);
        check.due("hearing(0)", x.hearing(0), 2);
        check.due("kinds(0)", x.kinds(0), 1);
        check.due("hearing(1)", x.hearing(1), 63);
    }

    private static void earSets() {
        check.part("promise 19: from no ear (0) to all six (63), each end alone (1, 32)");
        FortyJars x = Jars.of("y26;m2.....;......");
        check.due("no readings", x.hearing(0), 63);
        int[] heard = {63, 62, 60, 56, 48, 32};
        for (int c = 0; c < 6; c++) {
            x.reading(0, c, true);
            check.due("heard " + c + " far", x.hearing(0), heard[c]);
            x.back(1);
            x.reading(0, c, false);
            check.due("not heard " + c + " far", x.hearing(0), 63 - heard[c]);
            x.back(1);
        }
        x.reading(0, 11, true);
        check.due("6 far: no ear", x.hearing(0), 0);
        x.back(1);
        for (int c = 0; c < 5; c++) {
            x.reading(0, c, true);
            x.reading(0, c + 1, false);
            check.due("ear " + c + " alone", x.hearing(0), 1 << c);
            x.back(2);
        }
        x.reading(0, 0, true);
        x.reading(0, 0, false);
        check.due("heard and not heard", x.hearing(0), 0);
        check.due("his ear is as it was", x.ofMan(0, 1), 2);
        for (int m : new int[] {-1, 1, 6, 32, MIN, MAX}) check.due("hearing(" + m + ")", x.hearing(m), Jars.UNKNOWN);
    }

    private static void earsByKind() {
        check.part("promise 19: his kind stays his own: what a watchful one and a chief hear by each ear");
        int[] watchful = {63, 63, 62, 60, 56, 48, 32, 0, 0};
        int[] chief = {63, 63, 63, 62, 62, 60, 60, 56, 56};
        int[] cells = {0, 1, 2, 3, 4, 5, 11, 17, 23};
        FortyJars x = Jars.of("y46;w0.....;......;......;......");
        FortyJars y = Jars.of("y46;c0.....;......;......;......");
        for (int far = 0; far < 9; far++) {
            x.reading(0, cells[far], true);
            y.reading(0, cells[far], true);
            check.due("w, heard " + far + " far", x.hearing(0), watchful[far]);
            check.due("c, heard " + far + " far", y.hearing(0), chief[far]);
            x.back(1);
            y.back(1);
        }
    }

    private static void kindSets() {
        check.part("promise 20: from no kind (0) to all three (7), each end alone (1, 4)");
        FortyJars x = Jars.of("y46;w1.....;......;......;......");
        check.due("no readings", x.kinds(0), 7);
        int[] heard = {7, 7, 6, 4, 4, 0};
        for (int c = 0; c < 6; c++) {
            x.reading(0, c, true);
            check.due("heard " + c + " far", x.kinds(0), heard[c]);
            x.back(1);
            x.reading(0, c, false);
            check.due("not heard " + c + " far", x.kinds(0), 7 - heard[c]);
            x.back(1);
        }
        x.reading(0, 2, true);
        x.reading(0, 3, false);
        check.due("a watchful one alone", x.kinds(0), 2);
        check.due("his kind is as it was", x.ofMan(0, 0), 1);
        for (int m : new int[] {-1, 1, 6, 32, MIN, MAX}) check.due("kinds(" + m + ")", x.kinds(m), Jars.UNKNOWN);
    }

    private static void kindsByEar() {
        check.part("promise 20: his ear stays his own: what he would hear as each kind, by ears 0 .. 5");
        int[] cells = {0, 1, 2, 3, 4, 5, 11, 17, 23};
        for (int ear = 0; ear <= 5; ear++) {
            FortyJars x = Jars.of("y46;m" + ear + ".....;......;......;......");
            for (int far = 0; far < 9; far++) {
                int want = (far <= ear ? 1 : 0) + (far <= ear + 1 ? 2 : 0) + (far <= 2 * ear + 2 ? 4 : 0);
                x.reading(0, cells[far], true);
                check.due("m" + ear + ", heard " + far + " far", x.kinds(0), want);
                x.back(1);
                x.reading(0, cells[far], false);
                check.due("m" + ear + ", not heard " + far + " far", x.kinds(0), 7 - want);
                x.back(1);
            }
        }
    }

    private static void othersReadings() {
        check.part("promises 19, 20: by which all readings are so: of other men, too");
        FortyJars x = Jars.of("y16;m1....m1");
        x.reading(0, 0, false);
        check.due("hearing(1)", x.hearing(1), 0);
        check.due("kinds(1)", x.kinds(1), 0);
        check.due("hearing(0)", x.hearing(0), 0);
        x.back(1);
        x.reading(0, 1, true);
        check.due("hearing(1)", x.hearing(1), 63);
        check.due("kinds(1)", x.kinds(1), 7);
        x.reading(1, 5, true);
        x.reading(0, 3, true);
        check.due("hearing(0)", x.hearing(0), 56);
        check.due("hearing(1)", x.hearing(1), 0);
        check.due("kinds(1)", x.kinds(1), 0);
    }

    private static void othersAsleep() {
        check.part("promises 18, 19, 20: whoever of them sleeps, other men's readings are of men awake");
        FortyJars x = Jars.of("y16;m1....m1");
        for (int sleepers = 0; sleepers < 4; sleepers++) {
            for (int m = 0; m < 2; m++) x.doze(m, (sleepers >> m & 1) != 0);
            x.reading(0, 2, true);
            x.reading(1, 3, false);
            check.due("man 0 does not hear so far", x.holds(), 0);
            check.due("hearing(0)", x.hearing(0), 60);
            check.due("kinds(0)", x.kinds(0), 6);
            check.due("hearing(1)", x.hearing(1), 0);
            check.due("kinds(1)", x.kinds(1), 0);
            x.back(2);
            x.reading(0, 1, true);
            x.reading(1, 5, true);
            check.due("both are so", x.holds(), 1);
            check.due("hearing(0)", x.hearing(0), 62);
            check.due("kinds(1)", x.kinds(1), 7);
            x.back(2);
        }
    }

    // ---- promise 21

    private static void share(FortyJars x, long lower, int... steps) {
        check.due("upper", Jars.odds(x, 0, steps), 1);
        check.due("lower", Jars.odds(x, 1, steps), lower);
        check.due("fault()", x.fault(), 0);
    }

    private static void oddsEdges() {
        check.part("promise 21: from 1 of 1 (nobody could hear) to 1 of 32 (five could), in least terms");
        share(Jars.of("y12;.."), 1);
        share(Jars.of("y12;o."), 1, 6, 6);
        share(Jars.of("y16;c5c5c5c5c5c5"), 1);
        for (int men = 1; men <= 6; men++) {
            FortyJars x = Jars.of("y26;" + "c5".repeat(men) + ".".repeat(6 - men) + ";o.....");
            share(x, 1L << men - 1, 6, 0);
            share(x, 1L << men - 1, 6, men - 1);
            share(x, 1L << men - 1, 6, 0, 6);
            share(x, 1, 6, 6);
        }
        FortyJars x = Jars.of("y16;om0m0m0m0m0");
        x.can(5);
        share(x, 1, 6, 0, 1, 2, 3, 4);
    }

    private static void oddsInPlace() {
        check.part("promise 21: who sleeps now does not matter; one who hears twice counts once; dealt with, not at all");
        FortyJars x = Jars.of("y16;om1m1m1..");
        x.can(3);
        share(x, 2, 6, 0);
        share(x, 4, 6, 1);
        share(x, 4, 6, 1, 0);
        share(x, 4, 6, 0, 1);
        share(x, 2, 6, 0, 2);
        share(x, 2, 6, 0, 2, 1);
        share(x, 4, 6, 0, 1, 2);
        for (int m = 0; m < 3; m++) x.doze(m, true);
        share(x, 2, 6, 0);
        share(x, 4, 6, 1);
        x.doze(1, false);
        share(x, 4, 6, 1, 0);
        x.doze(0, false);
        x.doze(2, false);
        x = Jars.of("y14;m2om0m0");
        share(x, 2, 6, 1);
        share(x, 1, 6, 2);
        share(x, 1, 6, 0, 6, 1);
    }

    private static void oddsCells() {
        check.part("promise 21: n is 0 .. 20, cells from i on of a full sheet of 60, which 0 and 1");
        FortyJars x = Jars.of("y12;.o");
        x.sheet(0, 1, 60);
        for (int i = 0; i < 60; i++) x.put(0, i, 6);
        for (int which = 0; which < 2; which++) {
            for (int n : new int[] {0, 1, 19, 20}) {
                check.due("n " + n, x.odds(0, 1, 0, n, which), 1);
                check.due("at the end", x.odds(0, 1, 60 - n, n, which), 1);
                check.due("fault()", x.fault(), 0);
                check.due("beyond", x.odds(0, 1, 61 - n, n, which), Jars.LOST);
                check.due("fault()", x.fault(), 3);
            }
            for (int n : new int[] {-1, 21, MIN, MAX}) {
                check.due("n " + n, x.odds(0, 1, 0, n, which), Jars.LOST);
                check.due("fault()", x.fault(), 0);
            }
        }
        for (int which : new int[] {-1, 2, 3, 4, 5, MIN, MAX}) {
            check.due("which " + which, x.odds(0, 1, 0, 1, which), Jars.LOST);
            check.due("fault()", x.fault(), 0);
        }
        x.sheet(0, 1, 0);
        check.due("a row of no cells", x.odds(0, 1, 0, 0, 1), 1);
        check.due("one of it", x.odds(0, 1, 0, 1, 1), Jars.LOST);
        check.due("fault()", x.fault(), 3);
    }

    private static void oddsOfWrong() {
        check.part("promise 21: a first wrong is LOST, from the first step to the twentieth; fault() tells 0");
        for (int place = 0; place < 20; place++) {
            FortyJars x = Jars.of("y13;om0m0");
            int[] plan = new int[20];
            java.util.Arrays.fill(plan, 6);
            if (place > 1) plan[1] = 0;
            plan[place] = 0;
            Jars.write(x, 0, 0, plan);
            x.put(0, 60, 0);
            check.due("wrong at " + place, x.odds(0, 0, 0, 20, 0), place == 1 ? 1 : Jars.LOST);
            check.due("fault()", x.fault(), 0);
            check.due("wrong at " + place, x.odds(0, 0, 0, place + 1, 1), place == 1 ? 1 : Jars.LOST);
            check.due("ahead of it", x.odds(0, 0, 0, place, 1), 1);
        }
    }
}
