/** Promise 10: plans. */
public final class PlanTest {
    private static final Check check = new Check();

    public static void main(String[] args) {
        carriedOut();
        heard();
        firstWrong();
        lanes();
        refused();
        check.end();
    }

    /** All six answers for one plan. */
    private static void all(FortyJars x, int[] steps, int... want) {
        String[] names = {"minutes", "wrong", "dealt", "heard", "left", "at"};
        for (int what = 0; what < 6; what++) {
            check.due(names[what], Jars.plan(x, what, steps), want[what]);
        }
    }

    private static void carriedOut() {
        check.part("promise 10: what a plan comes to");
        // 0: m0, 1: nothing, 2: OIL 0 / 3: w0, 4: OIL 1, 5: m1
        FortyJars x = Jars.of("y23;m0.o;w0om1");
        all(x, new int[] {}, 0, Jars.NONE, 0, Jars.NONE, 0, 0);
        all(x, new int[] {6}, 3, Jars.NONE, 0, Jars.NONE, 1, 2);
        all(x, new int[] {7, 7, 7}, 5, Jars.NONE, 0, Jars.NONE, 1, 4);
        all(x, new int[] {7, 2}, 5, Jars.NONE, 4, Jars.NONE, 0, 5);
        all(x, new int[] {7, 2, 6, 1, 7, 0}, 16, Jars.NONE, 7, Jars.NONE, 0, 0);
        all(x, new int[] {7, 0}, 6, Jars.NONE, 1, 1, 0, 0);
        x.can(3);
        all(x, new int[] {7, 2, 1, 0}, 10, Jars.NONE, 7, Jars.NONE, 0, 0);
        all(x, new int[] {7, 2, 0, 1}, 11, Jars.NONE, 7, 2, 0, 3);
        all(x, new int[] {6, 2, 6}, 7, Jars.NONE, 4, Jars.NONE, 3, 2);
        all(x, new int[] {6, 2}, 5, Jars.NONE, 4, Jars.NONE, 2, 5);
        int[] twenty = new int[20];
        java.util.Arrays.fill(twenty, 6);
        all(x, twenty, 22, Jars.NONE, 0, Jars.NONE, 3, 2);
        FortyJars y = Jars.of("y12;o.");
        all(y, new int[] {6}, 1, Jars.NONE, 0, Jars.NONE, 1, 0);
    }

    private static void heard() {
        check.part("promise 10: the pour that another one hears");
        // 0: OIL 0, 1: man 0 (hears 2), 2: man 1 (hears 0), 3: man 2 (hears 1)
        FortyJars x = Jars.of("y14;oc0m0m1");
        x.can(6);
        check.due("the chief hears just 2 far", Jars.plan(x, 3, 6, 2), 1);
        check.due("who is poured on does not matter", Jars.plan(x, 3, 6, 0), Jars.NONE);
        check.due("who is dealt with hears no more", Jars.plan(x, 3, 6, 0, 2), Jars.NONE);
        check.due("man 2 hears it", Jars.plan(x, 3, 6, 0, 1), 2);
        check.due("nobody stands", Jars.plan(x, 3, 6, 0, 2, 1), Jars.NONE);
        check.due("the first of two", Jars.plan(x, 3, 6, 6, 1, 2), 2);
        check.due("the second pour", Jars.plan(x, 3, 6, 0, 6, 1, 6, 2), 3);
        check.due("the plan goes on", Jars.plan(x, 2, 6, 1, 2), 6);
        x.doze(0, true);
        check.due("the chief sleeps", Jars.plan(x, 3, 6, 2), Jars.NONE);
        check.due("man 2 does not", Jars.plan(x, 3, 6, 1), 1);
        x.doze(2, true);
        check.due("both sleep", Jars.plan(x, 3, 6, 1, 2, 0), Jars.NONE);
    }

    private static void firstWrong() {
        check.part("promise 10: the first step that can't be");
        FortyJars x = Jars.of("y14;oc0m0m1");
        all(x, new int[] {0}, -100, 0, -100, -100, -100, -100);
        all(x, new int[] {6, 1, 2}, -102, 2, -102, -102, -102, -102);
        all(x, new int[] {6, 1, 6, 1, 0, 0}, -103, 3, -103, -103, -103, -103);
        check.due("fault()", x.fault(), 0);
        x.can(2);
        all(x, new int[] {6, 1, 2, 0, 6}, -103, 3, -103, -103, -103, -103);
        all(x, new int[] {6, 1, 1}, -102, 2, -102, -102, -102, -102);
        check.due("a full can is no fuller", Jars.plan(x, 1, 6, 6, 1, 2, 0), 4);
        Jars.write(x, 0, 2, 9, 9, 6, 1, 1);
        check.due("places are the plan's", x.plan(0, 2, 2, 3, 1), 2);
        check.due("places are the plan's", x.plan(0, 2, 4, 1, 0), -100);
        check.due("places are the plan's", x.plan(0, 2, 2, 2, 3), 1);
    }

    private static void lanes() {
        check.part("promise 10: cells of each lane");
        FortyJars x = Jars.of("y14;oc0m0m1");
        for (int lane = 0; lane < 3; lane++) {
            Jars.write(x, 1, lane, 8, 6, 2, -1);
            check.due("plan", x.plan(1, lane, 1, 2, 0), 5);
            check.due("a step of no oil", x.plan(1, lane, 0, 2, 0), Jars.UNKNOWN);
            check.due("a step below 0", x.plan(1, lane, 1, 3, 0), Jars.UNKNOWN);
        }
        Jars.write(x, 1, 0, 256 + 6);
        check.due("bytes cut it to 6", x.plan(1, 0, 0, 1, 4), 1);
    }

    private static void refused() {
        check.part("promise 10: refusals and faults, in their order");
        FortyJars x = new FortyJars();
        check.due("sheet", x.plan(4, 3, -1, -1, -1), Jars.UNKNOWN);
        check.due("sheet", x.plan(-1, 3, -1, -1, -1), Jars.UNKNOWN);
        check.due("lane", x.plan(0, 3, -1, 1, 0), Jars.OUTSIDE);
        check.due("lane", x.plan(0, -1, -1, 1, 0), Jars.OUTSIDE);
        check.due("n", x.plan(0, 0, 0, -1, 0), Jars.OUTSIDE);
        check.due("n", x.plan(0, 0, 0, 21, 0), Jars.OUTSIDE);
        check.due("what", x.plan(0, 0, 0, 1, 6), Jars.OUTSIDE);
        check.due("what", x.plan(0, 0, 0, 1, -1), Jars.OUTSIDE);
        check.due("no yard", x.plan(0, 0, -1, 1, 0), Jars.STATE);
        check.due("fault()", x.fault(), 0);
        Jars.take(x, "y14;oc0m0m1");
        check.due("nothing is no cast", x.plan(0, 1, -1, 1, 0), Jars.NULL);
        check.due("fault()", x.fault(), 1);
        Jars.write(x, 0, 0, 6, 3, 0, 7);
        check.due("cast", x.plan(0, 1, -1, 1, 0), Jars.CAST);
        check.due("fault()", x.fault(), 2);
        check.due("i below 0", x.plan(0, 0, -1, 1, 0), Jars.INDEX);
        check.due("fault()", x.fault(), 3);
        check.due("i below 0, none taken", x.plan(0, 0, -1, 0, 0), Jars.INDEX);
        check.due("i beyond, none taken", x.plan(0, 0, 5, 0, 0), Jars.INDEX);
        check.due("i at the end, none taken", x.plan(0, 0, 4, 0, 0), 0);
        check.due("fault()", x.fault(), 0);
        check.due("index ahead of a step", x.plan(0, 0, 1, 4, 0), Jars.INDEX);
        check.due("wraps", x.plan(0, 0, Integer.MAX_VALUE, 20, 0), Jars.INDEX);
        check.due("no man 3", x.plan(0, 0, 1, 1, 0), Jars.UNKNOWN);
        check.due("fault()", x.fault(), 0);
        check.due("no oil 1", x.plan(0, 0, 3, 1, 0), Jars.UNKNOWN);
        check.due("ahead of a first wrong", x.plan(0, 0, 1, 3, 1), Jars.UNKNOWN);
        check.due("ahead of a first wrong", x.plan(0, 0, 2, 2, 1), Jars.UNKNOWN);
        x.sheet(0, 0, 60);
        check.due("20 steps", x.plan(0, 0, 40, 20, 1), 0);
        check.due("21 steps", x.plan(0, 0, 0, 21, 1), Jars.OUTSIDE);
        Jars.take(x, "y12;..");
        check.due("no man 0", x.plan(0, 0, 0, 1, 0), Jars.UNKNOWN);
        check.due("no step", x.plan(0, 0, 0, 0, 0), 0);
    }
}
