/** Promises 10 to 15: the edges of plans, quiet orders, the soonest. */
public final class PlanEdgesTest {
    private static final Check check = new Check();
    private static final int MIN = Integer.MIN_VALUE, MAX = Integer.MAX_VALUE, NONE = Jars.NONE;
    private static final String SIX = "y26;om0m0m0m0m0;m0o....";

    public static void main(String[] args) {
        noSteps();
        howManySteps();
        whichCells();
        whats();
        lanes();
        numbersOfSteps();
        minutes();
        fills();
        pours();
        wrongPlaces();
        wrongSteps();
        heardPlaces();
        hearingFar();
        heardByAnother();
        quietNumbers();
        firstOrder();
        sleepersInOrder();
        stuck();
        soonestEdges();
        soonestByOil();
        soonestUnheard();
        soonestForced();
        soonestOfSix();
        soonestOrders();
        signEdges();
        severalSets();
        withoutEdges();
        check.end();
    }

    /** Minutes, first wrong, dealt with, heard, left in the can, at. */
    private static void all(FortyJars x, int[] steps, int... want) {
        Jars.write(x, Jars.SHEET, 2, steps);
        for (int what = 0; what < 6; what++) {
            check.due("plan, what " + what, x.plan(Jars.SHEET, 2, 0, steps.length, what), want[what]);
        }
    }

    private static int[] steps(int... steps) {
        return steps;
    }

    private static FortyJars filled(String text, int can) {
        FortyJars x = Jars.of(text);
        x.can(can);
        return x;
    }

    // ---- promise 10

    private static void noSteps() {
        check.part("promise 10: a plan of no steps: she is at cell 0, her can is empty, nobody is dealt with");
        for (String text : new String[] {"y12;..", "y12;o.", "y12;m0o", SIX}) {
            all(filled(text, 6), steps(), 0, NONE, 0, NONE, 0, 0);
        }
        FortyJars x = Jars.of("y12;m0o");
        x.sheet(0, 0, 0);
        check.due("of a row of no cells", x.plan(0, 0, 0, 0, 1), NONE);
        check.due("fault()", x.fault(), 0);
        check.due("one of it", x.plan(0, 0, 0, 1, 1), Jars.INDEX);
        check.due("from 1 on", x.plan(0, 0, 1, 0, 1), Jars.INDEX);
    }

    private static void howManySteps() {
        check.part("promise 10: n is 0 .. 20");
        FortyJars x = Jars.of("y12;.o");
        x.sheet(0, 0, 60);
        for (int i = 0; i < 60; i++) x.put(0, i, 6);
        for (int n = 0; n <= 20; n++) check.due("n " + n, x.plan(0, 0, 0, n, 0), n == 0 ? 0 : n + 1);
        for (int n : new int[] {-1, 21, 22, 60, 61, MIN, MAX}) {
            check.due("n " + n, x.plan(0, 0, 0, n, 0), Jars.OUTSIDE);
            check.due("fault()", x.fault(), 0);
        }
    }

    private static void whichCells() {
        check.part("promise 10: cells from i on of a full sheet of 60; none of them, too");
        FortyJars x = Jars.of("y12;.o");
        x.sheet(0, 0, 60);
        for (int i = 0; i < 60; i++) x.put(0, i, 6);
        check.due("the last 20", x.plan(0, 0, 40, 20, 0), 21);
        check.due("one beyond", x.plan(0, 0, 41, 20, 0), Jars.INDEX);
        check.due("the last one", x.plan(0, 0, 59, 1, 0), 2);
        check.due("none, behind the last", x.plan(0, 0, 60, 0, 0), 0);
        check.due("one behind the last", x.plan(0, 0, 60, 1, 0), Jars.INDEX);
        check.due("fault()", x.fault(), 3);
        for (int i : new int[] {-1, 61, MIN, MAX}) {
            for (int n : new int[] {0, 1, 20}) {
                check.due("from " + i + " on", x.plan(0, 0, i, n, 0), Jars.INDEX);
                check.due("fault()", x.fault(), 3);
            }
        }
    }

    private static void whats() {
        check.part("promise 10: what is 0 .. 5");
        FortyJars x = filled("y14;om0w0.", 2);
        all(x, steps(6, 0), 3, NONE, 1, 1, 1, 1);
        for (int what : new int[] {-1, 6, 7, MIN, MAX}) {
            check.due("what " + what, x.plan(Jars.SHEET, 2, 0, 2, what), Jars.OUTSIDE);
        }
    }

    private static void lanes() {
        check.part("promise 10: such cells: of each lane, as they were cut to it");
        FortyJars x = Jars.of("y14;om0w0.");
        for (int lane = 0; lane < 3; lane++) {
            Jars.write(x, 0, lane, 6, 1);
            check.due("plan", x.plan(0, lane, 0, 2, 0), 4);
            for (int other = 0; other < 3; other++) {
                if (other != lane) check.due("cast", x.plan(0, other, 0, 2, 0), Jars.CAST);
            }
        }
        Jars.write(x, 0, 0, 6 - 256, 256 + 1);
        check.due("bytes wrap", x.plan(0, 0, 0, 2, 0), 4);
        Jars.write(x, 0, 1, 6 + 65536, 1 - 65536);
        check.due("shorts wrap", x.plan(0, 1, 0, 2, 0), 4);
        Jars.write(x, 0, 1, 6 + 256);
        check.due("shorts do not", x.plan(0, 1, 0, 1, 0), Jars.UNKNOWN);
        Jars.write(x, 0, 2, 6 + 65536);
        check.due("ints do not", x.plan(0, 2, 0, 1, 0), Jars.UNKNOWN);
    }

    private static void numbersOfSteps() {
        check.part("promise 10: a step is a man or an oil that there is; refused ahead of a first wrong");
        String[] texts = {"y14;....", "y14;o...", "y14;o..o", "y14;m0.o.", "y16;m0m0m0m0m0m0", SIX};
        int[] men = {0, 0, 0, 1, 6, 6};
        int[] oils = {0, 1, 2, 1, 0, 2};
        for (int k = 0; k < texts.length; k++) {
            FortyJars x = Jars.of(texts[k]);
            for (int step : new int[] {MIN, -6, -1, 0, 1, 2, 3, 4, 5, 6, 7, 8, 9, 32, 38, MAX}) {
                int want = step >= 6 && step < 6 + oils[k] ? NONE : step >= 0 && step < men[k] ? 0 : Jars.UNKNOWN;
                check.due("step " + step + " of " + texts[k], Jars.plan(x, 1, step), want);
                check.due("fault()", x.fault(), 0);
            }
        }
        FortyJars x = Jars.of("y14;m0.o.");
        check.due("ahead of a first wrong", Jars.plan(x, 1, 0, 1), Jars.UNKNOWN);
        check.due("ahead of a first wrong", Jars.plan(x, 0, 0, 0, 7), Jars.UNKNOWN);
        check.due("behind the n steps", x.plan(Jars.SHEET, 2, 0, 2, 1), 0);
    }

    private static void minutes() {
        check.part("promise 10: each step takes far and 1 minute, of nothing far, too");
        FortyJars x = Jars.of("y46;o.....;......;......;....om0");
        all(x, steps(6), 1, NONE, 0, NONE, 1, 0);
        all(x, steps(6, 6, 6), 3, NONE, 0, NONE, 1, 0);
        all(x, steps(7), 8, NONE, 0, NONE, 1, 22);
        all(x, steps(7, 6), 16, NONE, 0, NONE, 1, 0);
        all(x, steps(6, 0), 10, NONE, 1, NONE, 0, 23);
        all(x, steps(7, 0), 10, NONE, 1, NONE, 0, 23);
        all(x, steps(6, 7, 6, 7, 6, 7, 6, 7, 6, 7, 6, 7, 6, 7, 6, 7, 6, 7, 6, 7), 153, NONE, 0, NONE, 1, 22);
        all(Jars.of("y12;m0o"), steps(6, 0), 4, NONE, 1, NONE, 0, 0);
    }

    private static void fills() {
        check.part("promise 10: her can is full behind an oil, from 1 to 6, never fuller");
        FortyJars x = Jars.of(SIX);
        for (int can = 1; can <= 6; can++) {
            x.can(can);
            check.due("filled", Jars.plan(x, 4, 6), can);
            check.due("filled twice", Jars.plan(x, 4, 6, 7), can);
            check.due("filled again", Jars.plan(x, 4, 6, 0, 7), can);
            check.due("poured once", Jars.plan(x, 4, 6, 0), can - 1);
        }
    }

    private static void pours() {
        check.part("promise 10: as many pours as her can holds, the next one can't be");
        int[] plan = {6, 0, 1, 2, 3, 4, 5};
        FortyJars x = Jars.of(SIX);
        Jars.write(x, 0, 0, plan);
        for (int can = 1; can <= 6; can++) {
            x.can(can);
            check.due("all that it holds", x.plan(0, 0, 0, can + 1, 4), 0);
            check.due("dealt with", x.plan(0, 0, 0, can + 1, 2), (1 << can) - 1);
            check.due("first wrong", x.plan(0, 0, 0, can + 1, 1), NONE);
            if (can < 6) check.due("one more", x.plan(0, 0, 0, can + 2, 1), can + 1);
        }
        check.due("all six", x.plan(0, 0, 0, 7, 2), 63);
    }

    private static void wrongPlaces() {
        check.part("promise 10: -100 less the first wrong, from place 0 to place 19, but what 1");
        FortyJars x = Jars.of("y13;om0m0");
        for (int place = 0; place < 20; place++) {
            int[] plan = new int[20];
            java.util.Arrays.fill(plan, 6);
            if (place > 1) plan[place - 1] = 0;
            plan[place] = place == 0 ? 1 : 0;
            FortyJars y = Jars.of("y13;om0m0");
            Jars.write(y, 0, 0, plan);
            int wrong = place == 1 ? NONE : place;
            check.due("first wrong", y.plan(0, 0, 0, 20, 1), wrong);
            for (int what : new int[] {0, 2, 3, 4, 5}) {
                if (wrong != NONE) check.due("what " + what, y.plan(0, 0, 0, 20, what), -100 - place);
            }
            check.due("fault()", y.fault(), 0);
        }
        all(x, steps(0), -100, 0, -100, -100, -100, -100);
        all(x, steps(6, 0, 6, 1, 1), -104, 4, -104, -104, -104, -104);
    }

    private static void wrongSteps() {
        check.part("promise 10: wrong is a man who does not stand, or an empty can; the first of several");
        FortyJars x = filled("y14;om0m0.", 2);
        check.due("an empty can at first", Jars.plan(x, 1, 0), 0);
        check.due("he does not stand", Jars.plan(x, 1, 6, 0, 0), 2);
        check.due("he does not stand, she fills again", Jars.plan(x, 1, 6, 0, 6, 0), 3);
        check.due("both", Jars.plan(x, 1, 6, 0, 1, 0), 3);
        check.due("the first of two", Jars.plan(x, 1, 6, 0, 0, 1, 1), 2);
        check.due("as oil follows", Jars.plan(x, 1, 6, 0, 0, 6), 2);
        check.due("none", Jars.plan(x, 1, 6, 0, 1, 6, 6), NONE);
        x.doze(0, true);
        check.due("a sleeper does not stand any more, too", Jars.plan(x, 1, 6, 0, 0), 2);
    }

    private static void heardPlaces() {
        check.part("promise 10: heard is told by its place in the row, from 1 to 19, none is NONE");
        for (int place = 1; place < 20; place++) {
            int[] plan = new int[20];
            java.util.Arrays.fill(plan, 6);
            plan[place] = 0;
            FortyJars x = Jars.of("y13;om0m1");
            Jars.write(x, 0, 0, plan);
            check.due("heard", x.plan(0, 0, 0, 20, 3), place);
            x.doze(1, true);
            check.due("he sleeps", x.plan(0, 0, 0, 20, 3), NONE);
        }
        FortyJars x = filled("y14;om1m1m1", 6);
        check.due("the first of three", Jars.plan(x, 3, 6, 0, 1, 2), 1);
        check.due("the cells ahead of i are none of its places", x.plan(Jars.SHEET, 2, 1, 1, 3), -100);
        x = filled("y15;m0.om0m1", 6);
        check.due("the second pour", Jars.plan(x, 3, 6, 0, 1), 2);
        check.due("a pour behind the last is not heard", Jars.plan(x, 3, 6, 0, 2, 1), NONE);
    }

    private static void hearingFar() {
        check.part("promise 10: heard as far as another one hears, and no farther");
        String[] ears = {"m2", "w1", "c0"};
        for (String ear : ears) {
            check.due(ear + ", 2 far", Jars.plan(Jars.of("y16;om0." + ear + ".."), 3, 6, 0), 1);
            check.due(ear + ", 3 far", Jars.plan(Jars.of("y16;om0.." + ear + "."), 3, 6, 0), NONE);
        }
        check.due("m0, 1 far", Jars.plan(Jars.of("y13;om0m0"), 3, 6, 0), NONE);
        check.due("w0, 1 far", Jars.plan(Jars.of("y13;om0w0"), 3, 6, 0), 1);
        check.due("across rows, 2 far", Jars.plan(Jars.of("y22;om0;m2."), 3, 6, 0), 1);
        check.due("across rows, 2 far", Jars.plan(Jars.of("y22;om0;m1."), 3, 6, 0), NONE);
    }

    private static void heardByAnother() {
        check.part("promise 10: the one that is poured on does not matter; one who does not stand hears nothing");
        FortyJars x = Jars.of("y13;oc5.");
        check.due("he alone", Jars.plan(x, 3, 6, 0), NONE);
        x = filled("y13;oc5m0", 2);
        check.due("the chief first", Jars.plan(x, 3, 6, 0, 1), NONE);
        check.due("the chief last", Jars.plan(x, 3, 6, 1, 0), 1);
        x.doze(0, true);
        check.due("the chief sleeps", Jars.plan(x, 3, 6, 1, 0), NONE);
        x.doze(0, false);
        check.due("the chief is awake again", Jars.plan(x, 3, 6, 1, 0), 1);
    }

    // ---- promises 11, 12

    private static void row(FortyJars x, int... men) {
        for (int k = 0; k < men.length; k++) check.due("quiet(" + k + ")", x.quiet(k), men[k]);
        for (int k : new int[] {men.length, men.length + 1, 6, 7, 32, MAX}) {
            check.due("quiet(" + k + "), there are fewer", x.quiet(k), NONE);
        }
        for (int k : new int[] {-1, -2, MIN}) check.due("quiet(" + k + ")", x.quiet(k), Jars.UNKNOWN);
    }

    private static void quietNumbers() {
        check.part("promise 11: the k-th man, 0 on, of none to six men; NONE behind the last");
        for (int men = 0; men <= 6; men++) {
            int[] want = new int[men];
            for (int m = 0; m < men; m++) want[m] = m;
            FortyJars x = Jars.of("y16;" + "m0".repeat(men) + ".".repeat(6 - men));
            row(x, want);
            check.due("stuck()", x.stuck(), 0);
        }
    }

    private static void firstOrder() {
        check.part("promise 11: the first order as a row; none, as soon as one is left");
        row(Jars.of("y16;m1m0.m0m0."), 0, 1, 2, 3);
        row(Jars.of("y16;m0m1...."), 1, 0);
        row(Jars.of("y16;m0m1.m2.."), 2, 1, 0);
        row(Jars.of("y46;m0m1.m2..;......;......;...m3.."), 3, 2, 1, 0);
        row(Jars.of("y46;m0m1.m2..;.....m4;......;...m3.."), 3, 4, 2, 1, 0);
        row(Jars.of("y13;m0m1m2"));
        row(Jars.of("y24;m0m1.m0;..m0m1"), 1, 0, 4, 2, 3);
        row(Jars.of("y16;m0.w0w0.m0"));
        row(Jars.of("y12;w0w0"));
        row(Jars.of("y12;oc5"), 0);
    }

    private static void sleepersInOrder() {
        check.part("promises 11, 12: one who sleeps hears nothing, but is to be dealt with");
        FortyJars x = Jars.of("y16;c5c5c5c5c5c5");
        row(x);
        check.due("stuck()", x.stuck(), 63);
        for (int m = 0; m < 5; m++) {
            check.due("who is awake hears all others", x.stuck(), 63);
            x.doze(m, true);
        }
        row(x, 5, 0, 1, 2, 3, 4);
        check.due("stuck()", x.stuck(), 0);
        x.doze(5, true);
        row(x, 0, 1, 2, 3, 4, 5);
    }

    private static void stuck() {
        check.part("promise 12: those who are left, from nobody (0) to all six (63), as all are dealt with that can be");
        check.due("no men", Jars.of("y12;..").stuck(), 0);
        check.due("one alone", Jars.of("y12;c5.").stuck(), 0);
        check.due("two", Jars.of("y12;w0w0").stuck(), 3);
        check.due("two of three", Jars.of("y14;w0w0.m0").stuck(), 3);
        check.due("the last two of four", Jars.of("y26;m0m0....;....w0w0").stuck(), 12);
        check.due("one behind another", Jars.of("y16;w0w0.w0m0m1").stuck(), 3);
        check.due("heard by one who is left", Jars.of("y16;w0c0.m0..").stuck(), 7);
        check.due("far enough from them", Jars.of("y16;w0w0.m0..").stuck(), 3);
        check.due("all six", Jars.of("y16;w0w0w0w0w0w0").stuck(), 63);
        check.due("six, oil does not matter", Jars.of("y26;w0w0w0w0w0w0;.oo...").stuck(), 63);
    }

    // ---- promises 13 to 15

    private static void soonestEdges() {
        check.part("promise 13: no men takes 0 minutes; men, but no oil, never");
        check.due("no men, no oil", Jars.of("y12;..").soonest(), 0);
        check.due("no men", Jars.of("y12;oo").soonest(), 0);
        check.due("no oil", Jars.of("y12;m0.").soonest(), NONE);
        check.due("no oil, six sleep", Jars.of("y16;m0m0m0m0m0m0").soonest(), NONE);
        check.due("the least", Jars.of("y12;om0").soonest(), 3);
        check.due("the man in cell 0", Jars.of("y12;m0o").soonest(), 4);
        check.due("she is at cell 0 at first, not where a man is", Jars.of("y14;..om0").soonest(), 3 + 2);
        check.due("she is at cell 0 at first, not where the oil is", Jars.of("y14;..m0o").soonest(), 4 + 2);
        check.due("without(0)", Jars.of("y15;..om0m0").without(0), 3 + 3);
        check.due("the corners", Jars.of("y46;m0.....;......;......;.....o").soonest(), 18);
        check.due("each one of 8 far", Jars.of("y46;o.....;......;......;....m0m0").soonest(), 1 + 8 + 8 + 9);
    }

    private static void soonestByOil() {
        check.part("promise 13: by the can, 1 .. 6, and by the nearer way of two oils");
        int[] want = {35, 21, 16, 14, 11, 11};
        FortyJars x = Jars.of("y16;om0m0m0m0m0");
        for (int can = 1; can <= 6; can++) {
            x.can(can);
            check.due("can " + can, x.soonest(), want[can - 1]);
        }
        x = Jars.of("y16;om0.om0.");
        check.due("the oil that lies on her way", x.soonest(), 1 + 2 + 3 + 2);
        x = Jars.of("y16;om0.m0.o");
        check.due("the oil behind the man", x.soonest(), 1 + 2 + 2 + 4);
        x = Jars.of("y16;om0..m0o");
        check.due("by the second oil", x.soonest(), 1 + 2 + 5 + 2);
    }

    private static void soonestUnheard() {
        check.part("promise 13: no pour is heard, or none at all; who sleeps hears nothing");
        FortyJars x = Jars.of("y13;om0m1");
        x.can(2);
        check.due("the far one first", x.soonest(), 1 + 3 + 2);
        x.doze(1, true);
        check.due("he sleeps", x.soonest(), 1 + 2 + 2);
        x = Jars.of("y13;ow0w0");
        check.due("both hear", x.soonest(), NONE);
        x.doze(0, true);
        check.due("one sleeps: the other one first", x.soonest(), 1 + 3 + 3 + 2);
        x.doze(1, true);
        check.due("both sleep", x.soonest(), 1 + 2 + 2 + 3);
        x.doze(0, false);
        x.can(2);
        check.due("the other one sleeps", x.soonest(), 1 + 2 + 2);
    }

    private static void soonestForced() {
        check.part("promise 13: an order that ears force, from a near man to the farthest and back");
        int[] want = {28, 25, 24, 24, 24, 24};
        FortyJars x = Jars.of("y46;w5.....;......;....oc3;...m0..");
        for (int k = 0; k < 3; k++) check.due("the order", x.quiet(k), new int[] {1, 0, 2}[k]);
        for (int can = 1; can <= 6; can++) {
            x.can(can);
            check.due("can " + can, x.soonest(), want[can - 1]);
            check.due("without the first", x.without(1), can == 1 ? 7 + 7 + 7 + 3 : 7 + 7 + 7);
            check.due("without the far one", x.without(0), can == 1 ? 7 + 2 + 2 + 3 : 7 + 2 + 4);
            check.due("without the last", x.without(2), can == 1 ? 7 + 2 + 2 + 7 : 7 + 2 + 8);
        }
    }

    private static void soonestOfSix() {
        check.part("promise 13: six men by each can: 6 pours of one filling, 5 and 1, 4 and 2, ..");
        byEachCan("y26;om0m0m0m0m0;m0.....", 39, 24, 19, 17, 15, 14);
        byEachCan("y46;m0....m0;..m0...;...m0..;m0.o..m0", 51, 36, 31, 31, 31, 28);
    }

    private static void soonestOrders() {
        check.part("promise 13: the soonest is not by the first order, nor by the last, nor by the nearest one first");
        byEachCan("y15;m0..om0", 12, 11, 11, 11, 11, 11);
        byEachCan("y15;.m0o.m0", 10, 9, 9, 9, 9, 9);
        byEachCan("y15;m0m0om0.", 14, 11, 10, 10, 10, 10);
        byEachCan("y15;.m0om0m0", 14, 11, 10, 10, 10, 10);
    }

    private static void byEachCan(String text, int... want) {
        FortyJars x = Jars.of(text);
        for (int can = 1; can <= 6; can++) {
            x.can(can);
            check.due("can " + can + " of " + text, x.soonest(), want[can - 1]);
        }
    }

    private static void signEdges() {
        check.part("promise 14: a plan that takes just the sign's minutes is in time, one minute more is not");
        String[] texts = {"y12;om0", "y12;m0o", "y46;m0.....;......;......;.....o"};
        int[] minutes = {3, 4, 18};
        for (int k = 0; k < texts.length; k++) {
            FortyJars x = Jars.of(texts[k]);
            x.delay(minutes[k]);
            check.due("just in time", x.most(), 1);
            x.delay(minutes[k] - 1);
            check.due("one minute more", x.most(), 0);
            x.delay(0);
            check.due("sign 0", x.most(), 0);
            x.delay(99);
            check.due("sign 99", x.most(), 1);
        }
        FortyJars x = Jars.of("y46;......;.....o;......;o.....");
        check.due("no men", x.most(), 0);
        check.due("no oil", Jars.of("y16;m0m0m0m0m0m0").most(), 0);
        x = Jars.of(SIX);
        x.can(6);
        x.delay(99);
        check.due("all six", x.most(), 63);
        x.delay(x.soonest());
        check.due("all six, just in time", x.most(), 63);
        x.delay(x.soonest() - 1);
        check.due("five of six", Integer.bitCount(x.most()), 5);
    }

    private static void severalSets() {
        check.part("promise 14: the most men; of several sets the least");
        FortyJars x = Jars.of("y13;m0om0");
        x.delay(4);
        check.due("0 or 2: one of them", x.most(), 1);
        x = Jars.of("y14;..m0o");
        x.delay(6);
        check.due("one", x.most(), 1);
        x = Jars.of("y16;om0m0.m0m0");
        x.delay(99);
        x.can(2);
        check.due("all", x.most(), 15);
        x.delay(8);
        check.due("two of four: 0 and 1", x.most(), 3);
        x = Jars.of("y23;m0om0;.m0.");
        x.delay(7);
        x.can(2);
        check.due("0 and 1: 5 minutes and more", x.most(), 3);
        x = Jars.of("y16;.w0w0om0m0");
        x.can(6);
        check.due("two, though the least numbers hear each other", x.most(), 12);
        x = Jars.of("y14;m3om0m0");
        x.delay(5);
        check.due("1 alone is heard: 0", x.most(), 1);
        x.delay(3);
        check.due("nobody in time", x.most(), 0);
    }

    private static void withoutEdges() {
        check.part("promise 15: without a man he is neither to be dealt with, nor hears");
        FortyJars x = Jars.of("y16;om0m0m0m0c5");
        check.due("soonest()", x.soonest(), 1 + 6 + 6 + 2 + 2 + 3 + 3 + 4 + 4 + 5);
        check.due("without the last", x.without(4), 1 + 2 + 2 + 3 + 3 + 4 + 4 + 5);
        x = Jars.of("y13;ow0w0");
        check.due("soonest()", x.soonest(), NONE);
        check.due("without(0)", x.without(0), 4);
        check.due("without(1)", x.without(1), 3);
        x = Jars.of("y12;m0.");
        check.due("none is left, no oil", x.without(0), 0);
        check.due("soonest()", x.soonest(), NONE);
        x = Jars.of("y12;m0m0");
        check.due("one is left, no oil", x.without(0), NONE);
        check.due("one is left, no oil", x.without(1), NONE);
        x = Jars.of("y13;w0w0w0");
        for (int m : new int[] {-1, 3, 6, 32, 33, MIN, MAX}) {
            check.due("without(" + m + ")", x.without(m), Jars.UNKNOWN);
        }
        check.due("no men", Jars.of("y12;o.").without(0), Jars.UNKNOWN);
        x = Jars.of(SIX);
        for (int m = 0; m < 6; m++) check.due("five are left", x.without(m) < x.soonest());
        check.due("six", x.without(6), Jars.UNKNOWN);
        check.due("all are there again", x.many(1), 6);
    }
}
