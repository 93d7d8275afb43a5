import java.util.function.Supplier;
import java.util.function.ToLongFunction;

/**
 * Each call that is refused, or comes to a fault: what it answers, what
 * fault() tells behind it, which reason comes first, and that it changes nothing.
 */
public final class RefusedTest {
    private static final Check check = new Check();
    private static final int MIN = Integer.MIN_VALUE, MAX = Integer.MAX_VALUE;
    private static final int UNKNOWN = Jars.UNKNOWN, OUTSIDE = Jars.OUTSIDE, STATE = Jars.STATE, FULL = Jars.FULL;
    private static final int NULL = Jars.NULL, CAST = Jars.CAST, INDEX = Jars.INDEX, SIZE = Jars.SIZE;
    private static final long LOST = Jars.LOST;

    /** Six cells; men 0, 1, 2 in cells 0, 2, 5; oils in cells 1, 4. */
    private static final String TEXT = "y23;m1ow0;.oc2";
    /** What fault() tells of every prepared object, until a call that names faults is made. */
    private static final int FAULT_BEFORE = 2;
    private static final int[] LENGTHS = {14, 7, 3, 0};
    private static final int[] LANES = {0, 1, 2, 1};
    private static final int[] NO_CELL = {-1, 6, 24, 38, MIN, MAX};
    private static final int[] NO_MAN = {-1, 3, 6, 32, 33, MIN, MAX};
    private static final int[] NONE_AT_ALL = {-1, 0, 1, MAX};

    private static Supplier<FortyJars> prepared;
    private static String seenBefore;

    public static void main(String[] args) {
        yards();
        yardCells();
        yardTexts();
        insides();
        ofMen();
        fars();
        cans();
        delays();
        dozes();
        ears();
        plans();
        planSteps();
        plansWithoutYard();
        quiets();
        noYards();
        withouts();
        readings();
        backs();
        hearings();
        kinds();
        odds();
        oddsWithoutYard();
        sheets();
        loses();
        puts();
        cells();
        copies();
        tells();
        asks();
        asKinds();
        manies();
        answersAlone();
        check.end();
    }

    // ---- the objects that are refused something

    /** A text on bytes, a plan on shorts, some numbers on ints, nothing on sheet 3; what can be set is set. */
    private static FortyJars withYard() {
        FortyJars x = withoutAYard();
        x.yard(0, 0, 0, TEXT.length());
        x.can(3);
        x.delay(17);
        x.doze(1, true);
        x.reading(0, 2, false);
        x.reading(2, 3, true);
        x.tell(2);
        x.ask(0);
        x.as(0, 2);
        return x;
    }

    private static FortyJars withFullReadings() {
        FortyJars x = withYard();
        for (int k = 2; k < 8; k++) x.reading(k % 3, k % 6, k % 2 == 0);
        return x;
    }

    private static FortyJars withoutAYard() {
        FortyJars x = new FortyJars();
        Jars.write(x, 0, 0, TEXT);
        Jars.write(x, 1, 1, 6, 2, 0, 7, 8, 3, -1);
        Jars.write(x, 2, 2, 70001, -5, 6);
        x.sheet(3, 0, 0);
        x.lose(3);
        x.cell(0, 0, 1);
        return x;
    }

    /** The fourth sheet has a row of no shorts: LENGTHS and LANES tell all four. */
    private static FortyJars withEmptyRow() {
        FortyJars x = withYard();
        x.sheet(3, 1, 0);
        x.as(0, 2);
        return x;
    }

    /** Begins a part: its calls are made on new objects of this kind, each on its own. */
    private static void part(String name, Supplier<FortyJars> objects) {
        check.part(name);
        on(objects);
    }

    /** From here on the part's calls are made on new objects of another kind. */
    private static void on(Supplier<FortyJars> objects) {
        prepared = objects;
        seenBefore = Seen.of(prepared.get());
        check.due("fault() ahead of the call", prepared.get().fault(), FAULT_BEFORE);
    }

    private static void called(String call, ToLongFunction<FortyJars> made, long answer, int fault) {
        FortyJars x = prepared.get();
        check.due(call, made.applyAsLong(x), answer);
        check.due("fault() behind " + call, x.fault(), fault);
        String seen = Seen.of(x);
        if (!seen.equals(seenBefore)) System.out.println("  seen ahead:  " + seenBefore + "\n  seen behind: " + seen);
        check.due(call + " changes nothing", seen.equals(seenBefore));
    }

    /** Of a call that names no faults: fault() tells what it told. */
    private static void refused(String call, ToLongFunction<FortyJars> made, long answer) {
        called(call, made, answer, FAULT_BEFORE);
    }

    /** Of a call that names faults: a fault's answer tells its number, a refusal's is 0. */
    private static void answered(String call, ToLongFunction<FortyJars> made, int answer) {
        called(call, made, answer, answer <= NULL && answer >= SIZE ? -10 - answer : 0);
    }

    // ---- 1 the yard

    private static void yard(int sheet, int lane, int i, int n, int answer) {
        answered("yard(" + sheet + ", " + lane + ", " + i + ", " + n + ")", x -> x.yard(sheet, lane, i, n), answer);
    }

    private static void yards() {
        part("promise 2: yard() of no sheet, no lane, a cast, nothing, in the order of its line, changes nothing",
                RefusedTest::withYard);
        for (int sheet : new int[] {-1, 4, 32, MIN, MAX}) {
            yard(sheet, 0, 0, 14, UNKNOWN);
            yard(sheet, 3, -1, -1, UNKNOWN);
        }
        for (int lane : new int[] {-1, 3, 32, MIN, MAX}) {
            for (int sheet = 0; sheet < 4; sheet++) yard(sheet, lane, -1, -1, OUTSIDE);
            yard(0, lane, 0, 14, OUTSIDE);
        }
        for (int sheet = 0; sheet < 3; sheet++) {
            for (int lane = 0; lane < 3; lane++) {
                if (lane == sheet) continue;
                yard(sheet, lane, 0, 0, CAST);
                yard(sheet, lane, -1, -1, CAST);
            }
        }
        for (int lane = 0; lane < 3; lane++) {
            yard(3, lane, 0, 0, NULL);
            yard(3, lane, -1, -1, NULL);
        }
    }

    private static void yardCells() {
        part("promise 2: yard() of a size below 0, of cells that there are not, changes nothing", RefusedTest::withEmptyRow);
        for (int n : new int[] {-1, -2, MIN}) {
            for (int i : new int[] {0, -1, 15, MIN, MAX}) yard(0, 0, i, n, SIZE);
        }
        for (int i : new int[] {-1, 15, 61, MIN, MAX}) {
            for (int n : new int[] {0, 1, 14, MAX}) yard(0, 0, i, n, INDEX);
        }
        for (int i = 0; i <= 14; i++) {
            yard(0, 0, i, 15 - i, INDEX);
            yard(0, 0, i, MAX, INDEX);
        }
        yard(3, 1, 0, 1, INDEX);
        yard(3, 1, 1, 0, INDEX);
    }

    private static void yardTexts() {
        part("promise 2: yard() of a text that is not taken changes nothing", RefusedTest::withEmptyRow);
        yard(3, 1, 0, 0, -100);
        yard(0, 0, 14, 0, -100);
        yard(1, 1, 7, 0, -100);
        for (int n = 0; n < 14; n++) yard(0, 0, 0, n, -100 - n);
        yard(0, 0, 1, 13, -100);
        yard(2, 2, 0, 3, -100);
    }

    private static void insides() {
        part("promise 3: inside() of no cell, without a yard, changes nothing", RefusedTest::withYard);
        for (int c : NO_CELL) refused("inside(" + c + ")", x -> x.inside(c), UNKNOWN);
        on(RefusedTest::withoutAYard);
        for (int c : NONE_AT_ALL) refused("inside(" + c + ")", x -> x.inside(c), UNKNOWN);
    }

    private static void ofMen() {
        part("promise 4: ofMan() of no man, then of no such what, without a yard, changes nothing", RefusedTest::withYard);
        for (int m : NO_MAN) {
            refused("ofMan(" + m + ", 0)", x -> x.ofMan(m, 0), UNKNOWN);
            refused("ofMan(" + m + ", 5)", x -> x.ofMan(m, 5), UNKNOWN);
        }
        for (int what : new int[] {-1, 5, 32, MIN, MAX}) {
            refused("ofMan(0, " + what + ")", x -> x.ofMan(0, what), OUTSIDE);
            refused("ofMan(2, " + what + ")", x -> x.ofMan(2, what), OUTSIDE);
        }
        on(RefusedTest::withoutAYard);
        for (int m : NONE_AT_ALL) refused("ofMan(" + m + ", 5)", x -> x.ofMan(m, 5), UNKNOWN);
    }

    private static void fars() {
        part("promise 5: far() of no cell, the first or the other, without a yard, changes nothing", RefusedTest::withYard);
        for (int c : NO_CELL) {
            refused("far(" + c + ", 0)", x -> x.far(c, 0), UNKNOWN);
            refused("far(0, " + c + ")", x -> x.far(0, c), UNKNOWN);
        }
        on(RefusedTest::withoutAYard);
        for (int c : NONE_AT_ALL) refused("far(" + c + ", " + c + ")", x -> x.far(c, c), UNKNOWN);
    }

    private static void cans() {
        part("promise 6: can() of no 1 .. 6, then without a yard, changes nothing", RefusedTest::withYard);
        for (int v : new int[] {0, -1, 7, MIN, MAX}) refused("can(" + v + ")", x -> x.can(v), OUTSIDE);
        on(RefusedTest::withoutAYard);
        for (int v : new int[] {0, -1, 7, MIN, MAX}) refused("can(" + v + ")", x -> x.can(v), OUTSIDE);
        for (int v : new int[] {1, 2, 5, 6}) refused("can(" + v + ")", x -> x.can(v), STATE);
    }

    private static void delays() {
        part("promise 7: delay() of no 0 .. 99, then without a yard, changes nothing", RefusedTest::withYard);
        for (int v : new int[] {-1, 100, MIN, MAX}) refused("delay(" + v + ")", x -> x.delay(v), OUTSIDE);
        on(RefusedTest::withoutAYard);
        for (int v : new int[] {-1, 100, MIN, MAX}) refused("delay(" + v + ")", x -> x.delay(v), OUTSIDE);
        for (int v : new int[] {0, 30, 99}) refused("delay(" + v + ")", x -> x.delay(v), STATE);
    }

    private static void dozes() {
        part("promise 8: doze() of no man, as it was, without a yard, changes nothing", RefusedTest::withYard);
        for (int m : NO_MAN) {
            refused("doze(" + m + ", true)", x -> x.doze(m, true), UNKNOWN);
            refused("doze(" + m + ", false)", x -> x.doze(m, false), UNKNOWN);
        }
        refused("doze(0, false), as it was", x -> x.doze(0, false), 0);
        refused("doze(1, true), as it was", x -> x.doze(1, true), 0);
        on(RefusedTest::withoutAYard);
        for (int m : NONE_AT_ALL) refused("doze(" + m + ", true)", x -> x.doze(m, true), UNKNOWN);
    }

    private static void ears() {
        part("promise 9: ears() of no cell, without a yard, changes nothing", RefusedTest::withYard);
        for (int c : NO_CELL) refused("ears(" + c + ")", x -> x.ears(c), UNKNOWN);
        on(RefusedTest::withoutAYard);
        for (int c : NONE_AT_ALL) refused("ears(" + c + ")", x -> x.ears(c), UNKNOWN);
    }

    // ---- 2 plans

    private static void plan(int sheet, int lane, int i, int n, int what, int answer) {
        String call = "plan(" + sheet + ", " + lane + ", " + i + ", " + n + ", " + what + ")";
        answered(call, x -> x.plan(sheet, lane, i, n, what), answer);
    }

    private static void plans() {
        part("promise 10: plan() of no sheet, no lane, n, what, in the order of its line, changes nothing",
                RefusedTest::withYard);
        for (int sheet : new int[] {-1, 4, MIN, MAX}) plan(sheet, 3, -1, 21, 6, UNKNOWN);
        for (int lane : new int[] {-1, 3, MIN, MAX}) plan(1, lane, 0, 2, 0, OUTSIDE);
        for (int n : new int[] {-1, 21, MIN, MAX}) {
            plan(1, 1, 0, n, 0, OUTSIDE);
            plan(1, 0, -1, n, 0, OUTSIDE);
            plan(3, 0, -1, n, 0, OUTSIDE);
        }
        for (int what : new int[] {-1, 6, MIN, MAX}) {
            plan(1, 1, 0, 2, what, OUTSIDE);
            plan(1, 0, -1, 2, what, OUTSIDE);
            plan(3, 0, -1, 2, what, OUTSIDE);
        }
    }

    private static void planSteps() {
        part("promise 10: plan() of nothing, a cast, no such cells, then no such step, changes nothing", RefusedTest::withYard);
        for (int lane = 0; lane < 3; lane++) plan(3, lane, -1, 1, 1, NULL);
        plan(1, 0, -1, 1, 1, CAST);
        plan(1, 2, 0, 1, 1, CAST);
        for (int i : new int[] {-1, 8, MIN, MAX}) {
            for (int n : new int[] {0, 1, 20}) plan(1, 1, i, n, 1, INDEX);
        }
        for (int i = 0; i <= 7; i++) plan(1, 1, i, 8 - i, 1, INDEX);
        for (int what = 0; what < 6; what++) {
            plan(1, 1, 2, 3, what, UNKNOWN);
            plan(1, 1, 5, 1, what, UNKNOWN);
            plan(1, 1, 6, 1, what, UNKNOWN);
            plan(2, 2, 0, 1, what, UNKNOWN);
            plan(1, 1, 1, 1, what, what == 1 ? 0 : -100);
        }
    }

    private static void plansWithoutYard() {
        part("promise 10: plan() without a yard: behind OUTSIDE, ahead of the faults", RefusedTest::withoutAYard);
        plan(4, 3, -1, 21, 6, UNKNOWN);
        plan(1, 3, -1, 1, 0, OUTSIDE);
        plan(3, 0, -1, 21, 0, OUTSIDE);
        plan(3, 0, -1, -1, 0, OUTSIDE);
        plan(3, 0, -1, 1, 6, OUTSIDE);
        plan(3, 0, -1, 1, 0, STATE);
        plan(1, 0, -1, 1, 0, STATE);
        plan(1, 1, -1, 1, 0, STATE);
        plan(1, 1, 4, 1, 0, STATE);
        for (int what = 0; what < 6; what++) plan(1, 1, 0, 0, what, STATE);
    }

    // ---- 3 quiet orders, the soonest

    private static void quiets() {
        part("promise 11: quiet() of k below 0, then without a yard, changes nothing", RefusedTest::withYard);
        for (int k : new int[] {-1, -2, MIN}) refused("quiet(" + k + ")", x -> x.quiet(k), UNKNOWN);
        for (int k : new int[] {3, 4, MAX}) refused("quiet(" + k + ")", x -> x.quiet(k), Jars.NONE);
        on(RefusedTest::withoutAYard);
        for (int k : new int[] {-1, -2, MIN}) refused("quiet(" + k + ")", x -> x.quiet(k), UNKNOWN);
        for (int k : new int[] {0, 1, MAX}) refused("quiet(" + k + ")", x -> x.quiet(k), STATE);
    }

    private static void noYards() {
        part("promise 12: stuck() without a yard changes nothing", RefusedTest::withoutAYard);
        refused("stuck()", FortyJars::stuck, STATE);
        part("promise 13: soonest() without a yard changes nothing", RefusedTest::withoutAYard);
        refused("soonest()", FortyJars::soonest, STATE);
        part("promise 14: most() without a yard changes nothing", RefusedTest::withoutAYard);
        refused("most()", FortyJars::most, STATE);
        part("promise 18: holds() without a yard changes nothing", RefusedTest::withoutAYard);
        refused("holds()", FortyJars::holds, STATE);
    }

    private static void withouts() {
        part("promise 15: without() of no man, without a yard, changes nothing", RefusedTest::withYard);
        for (int m : NO_MAN) refused("without(" + m + ")", x -> x.without(m), UNKNOWN);
        on(RefusedTest::withoutAYard);
        for (int m : NONE_AT_ALL) refused("without(" + m + ")", x -> x.without(m), UNKNOWN);
    }

    // ---- 4 what was heard

    private static void readings() {
        part("promise 16: reading() of no man, no cell, then a ninth, without a yard, changes nothing",
                RefusedTest::withFullReadings);
        for (int m : NO_MAN) {
            refused("reading(" + m + ", 0, true)", x -> x.reading(m, 0, true), UNKNOWN);
            refused("reading(" + m + ", -1, false)", x -> x.reading(m, -1, false), UNKNOWN);
        }
        for (int c : NO_CELL) refused("reading(0, " + c + ", true)", x -> x.reading(0, c, true), UNKNOWN);
        refused("reading(0, 0, true), the ninth", x -> x.reading(0, 0, true), FULL);
        refused("reading(2, 5, false), the ninth", x -> x.reading(2, 5, false), FULL);
        on(RefusedTest::withYard);
        for (int m : NO_MAN) refused("reading(" + m + ", 0, true)", x -> x.reading(m, 0, true), UNKNOWN);
        for (int c : NO_CELL) refused("reading(0, " + c + ", true)", x -> x.reading(0, c, true), UNKNOWN);
        on(RefusedTest::withoutAYard);
        for (int m : NONE_AT_ALL) refused("reading(" + m + ", 0, true)", x -> x.reading(m, 0, true), UNKNOWN);
    }

    private static void backs() {
        part("promise 17: back() of k below 0, of more than there are, of none, changes nothing", RefusedTest::withFullReadings);
        for (int k : new int[] {-1, 9, MIN, MAX}) refused("back(" + k + ")", x -> x.back(k), OUTSIDE);
        refused("back(0)", x -> x.back(0), 8);
        on(RefusedTest::withYard);
        for (int k : new int[] {-1, 3, 8, MIN, MAX}) refused("back(" + k + ")", x -> x.back(k), OUTSIDE);
        refused("back(0)", x -> x.back(0), 2);
        on(RefusedTest::withoutAYard);
        for (int k : new int[] {-1, 1, MAX}) refused("back(" + k + ")", x -> x.back(k), OUTSIDE);
        refused("back(0)", x -> x.back(0), 0);
    }

    private static void hearings() {
        part("promise 19: hearing() of no man, without a yard, changes nothing", RefusedTest::withYard);
        for (int m : NO_MAN) refused("hearing(" + m + ")", x -> x.hearing(m), UNKNOWN);
        on(RefusedTest::withoutAYard);
        for (int m : NONE_AT_ALL) refused("hearing(" + m + ")", x -> x.hearing(m), UNKNOWN);
    }

    private static void kinds() {
        part("promise 20: kinds() of no man, without a yard, changes nothing", RefusedTest::withYard);
        for (int m : NO_MAN) refused("kinds(" + m + ")", x -> x.kinds(m), UNKNOWN);
        on(RefusedTest::withoutAYard);
        for (int m : NONE_AT_ALL) refused("kinds(" + m + ")", x -> x.kinds(m), UNKNOWN);
    }

    private static void lost(int sheet, int lane, int i, int n, int which, int fault) {
        String call = "odds(" + sheet + ", " + lane + ", " + i + ", " + n + ", " + which + ")";
        called(call, x -> x.odds(sheet, lane, i, n, which), LOST, fault);
    }

    private static void odds() {
        part("promise 21: odds() is LOST as plan() is refused, in its order, and of a first wrong; changes nothing",
                RefusedTest::withYard);
        for (int sheet : new int[] {-1, 4, MIN, MAX}) lost(sheet, 1, -1, 1, 0, 0);
        for (int lane : new int[] {-1, 3, MIN, MAX}) lost(3, lane, -1, 1, 0, 0);
        for (int n : new int[] {-1, 21, MIN, MAX}) lost(3, 0, -1, n, 0, 0);
        for (int which : new int[] {-1, 2, 5, 6, MIN, MAX}) {
            lost(3, 0, -1, 1, which, 0);
            lost(1, 1, 0, 2, which, 0);
        }
        for (int which = 0; which < 2; which++) {
            for (int lane = 0; lane < 3; lane++) lost(3, lane, -1, 1, which, 1);
            lost(1, 0, -1, 1, which, 2);
            lost(1, 2, 0, 1, which, 2);
            for (int i : new int[] {-1, 8, MIN, MAX}) lost(1, 1, i, 0, which, 3);
            for (int i = 0; i <= 7; i++) lost(1, 1, i, 8 - i, which, 3);
            lost(1, 1, 4, 1, which, 0);
            lost(1, 1, 6, 1, which, 0);
            lost(1, 1, 1, 1, which, 0);
        }
    }

    private static void oddsWithoutYard() {
        part("promise 21: odds() without a yard: LOST ahead of the faults", RefusedTest::withoutAYard);
        lost(1, 1, 0, 1, 0, 0);
        lost(1, 1, 0, 0, 1, 0);
        lost(3, 0, -1, 1, 0, 0);
        lost(1, 0, -1, 1, 0, 0);
    }

    // ---- 5 sheets, parts

    private static void sheets() {
        part("promise 22: sheet() of no sheet, no lane, n above 60, below 0, in the order of its line, changes nothing",
                RefusedTest::withYard);
        for (int k : new int[] {-1, 4, 32, MIN, MAX}) {
            answered("sheet(" + k + ", 3, -1)", x -> x.sheet(k, 3, -1), UNKNOWN);
            answered("sheet(" + k + ", 0, 1)", x -> x.sheet(k, 0, 1), UNKNOWN);
            answered("sheet(" + k + ", 0, 61)", x -> x.sheet(k, 0, 61), UNKNOWN);
        }
        for (int k = 0; k < 4; k++) {
            int sheet = k;
            for (int lane : new int[] {-1, 3, MIN, MAX}) {
                answered("sheet(" + k + ", " + lane + ", 5)", x -> x.sheet(sheet, lane, 5), OUTSIDE);
                answered("sheet(" + k + ", " + lane + ", -1)", x -> x.sheet(sheet, lane, -1), OUTSIDE);
            }
            for (int n : new int[] {61, 62, MAX}) {
                answered("sheet(" + k + ", 2, " + n + ")", x -> x.sheet(sheet, 2, n), OUTSIDE);
            }
            for (int n : new int[] {-1, -61, MIN}) {
                answered("sheet(" + k + ", 2, " + n + ")", x -> x.sheet(sheet, 2, n), SIZE);
            }
        }
    }

    private static void loses() {
        part("promise 23: lose() of no sheet, of nothing, changes nothing", RefusedTest::withYard);
        for (int k : new int[] {-1, 4, 32, MIN, MAX}) refused("lose(" + k + ")", x -> x.lose(k), UNKNOWN);
        refused("lose(3), which has nothing", x -> x.lose(3), 0);
    }

    private static void put(int k, int i, int answer) {
        answered("put(" + k + ", " + i + ", 1)", x -> x.put(k, i, 1), answer);
    }

    private static void puts() {
        part("promise 24: put() of no sheet, of nothing, of no such cell, in the order of its line, changes nothing",
                RefusedTest::withEmptyRow);
        for (int k : new int[] {-1, 4, MIN, MAX}) {
            put(k, 0, UNKNOWN);
            put(k, -1, UNKNOWN);
        }
        for (int k = 0; k < 4; k++) {
            for (int i : new int[] {-1, LENGTHS[k], 60, MIN, MAX}) put(k, i, INDEX);
        }
        on(RefusedTest::withYard);
        for (int i : new int[] {-1, 0, 60, MAX}) put(3, i, NULL);
    }

    private static void lostCell(int k, int i, int lane, int fault) {
        called("cell(" + k + ", " + i + ", " + lane + ")", x -> x.cell(k, i, lane), LOST, fault);
    }

    private static void cells() {
        part("promise 25: cell() of no sheet, no lane, a cast, nothing, no such cell, in the order of its line, changes nothing",
                RefusedTest::withEmptyRow);
        for (int k : new int[] {-1, 4, MIN, MAX}) {
            lostCell(k, 0, 0, 0);
            lostCell(k, -1, 3, 0);
        }
        for (int lane : new int[] {-1, 3, MIN, MAX}) {
            lostCell(0, 0, lane, 0);
            lostCell(3, -1, lane, 0);
        }
        for (int k = 0; k < 4; k++) {
            for (int i : new int[] {-1, LENGTHS[k], 60, MIN, MAX}) {
                for (int lane = 0; lane < 3; lane++) lostCell(k, i, lane, lane == LANES[k] ? 3 : 2);
            }
        }
        on(RefusedTest::withYard);
        for (int i : new int[] {-1, 0, MAX}) {
            for (int lane = 0; lane < 3; lane++) lostCell(3, i, lane, 1);
            lostCell(3, i, 3, 0);
        }
    }

    private static void copy(int k, int i, int other, int j, int n, int answer) {
        String call = "copy(" + k + ", " + i + ", " + other + ", " + j + ", " + n + ")";
        answered(call, x -> x.copy(k, i, other, j, n), answer);
    }

    private static void copies() {
        part("promise 26: copy() of no sheet, nothing, a cast, no such cells, in the order of its line, changes nothing",
                RefusedTest::withYard);
        for (int k : new int[] {-1, 4, MIN, MAX}) {
            copy(k, -1, 3, -1, -1, UNKNOWN);
            copy(3, -1, k, -1, -1, UNKNOWN);
            copy(k, 0, 0, 0, 1, UNKNOWN);
            copy(0, 0, k, 0, 1, UNKNOWN);
        }
        for (int k = 0; k < 4; k++) {
            copy(3, -1, k, -1, -1, NULL);
            copy(k, -1, 3, -1, -1, NULL);
            copy(k, 0, 3, 0, 0, NULL);
        }
        for (int k = 0; k < 3; k++) {
            for (int other = 0; other < 3; other++) {
                if (other == k) continue;
                copy(k, -1, other, -1, -1, CAST);
                copy(k, 0, other, 0, 0, CAST);
            }
        }
        for (int far : new int[] {-1, MIN, MAX}) {
            copy(0, far, 0, 0, 0, INDEX);
            copy(0, 0, 0, far, 0, INDEX);
            copy(0, 1, 0, 2, far, INDEX);
            copy(0, far, 0, far, far, INDEX);
        }
        for (int i = 0; i <= 14; i++) {
            copy(0, i, 0, 0, 15 - i, INDEX);
            copy(0, 0, 0, i, 15 - i, INDEX);
        }
        copy(0, 15, 0, 0, 0, INDEX);
        copy(0, 0, 0, 15, 0, INDEX);
        copy(0, 14, 0, 0, 1, INDEX);
        copy(0, 0, 0, 14, 1, INDEX);
        copy(0, 14, 0, 14, 0, 0);
        copy(1, 0, 1, 0, 7, 7);
    }

    private static void tells() {
        part("promise 27: tell() of no man, without a yard, changes nothing, the trace neither", RefusedTest::withYard);
        for (int m : NO_MAN) refused("tell(" + m + ")", x -> x.tell(m), UNKNOWN);
        on(RefusedTest::withoutAYard);
        for (int m : NONE_AT_ALL) refused("tell(" + m + ")", x -> x.tell(m), UNKNOWN);
    }

    private static void asks() {
        part("promise 28: ask() of no man, without a yard, changes nothing, the trace neither", RefusedTest::withYard);
        for (int m : NO_MAN) refused("ask(" + m + ")", x -> x.ask(m), UNKNOWN);
        on(RefusedTest::withoutAYard);
        for (int m : NONE_AT_ALL) refused("ask(" + m + ")", x -> x.ask(m), UNKNOWN);
    }

    private static void asKinds() {
        part("promise 29: as() of no man, no kind, a cast, in the order of its line, changes nothing", RefusedTest::withYard);
        for (int m : NO_MAN) {
            answered("as(" + m + ", 0)", x -> x.as(m, 0), UNKNOWN);
            answered("as(" + m + ", 3)", x -> x.as(m, 3), UNKNOWN);
        }
        for (int kind : new int[] {-1, 3, 32, MIN, MAX}) {
            answered("as(0, " + kind + ")", x -> x.as(0, kind), OUTSIDE);
            answered("as(2, " + kind + ")", x -> x.as(2, kind), OUTSIDE);
        }
        answered("as(0, 1)", x -> x.as(0, 1), CAST);
        answered("as(0, 2)", x -> x.as(0, 2), CAST);
        answered("as(1, 2)", x -> x.as(1, 2), CAST);
        on(RefusedTest::withoutAYard);
        for (int m : NONE_AT_ALL) answered("as(" + m + ", 3)", x -> x.as(m, 3), UNKNOWN);
    }

    private static void manies() {
        part("promise 32: many() of no 0 .. 5 changes nothing", RefusedTest::withYard);
        for (int what : new int[] {-1, 6, MIN, MAX}) refused("many(" + what + ")", x -> x.many(what), OUTSIDE);
        on(RefusedTest::withoutAYard);
        for (int what : new int[] {-1, 6, MIN, MAX}) refused("many(" + what + ")", x -> x.many(what), OUTSIDE);
    }

    private static void answersAlone() {
        part("promises 3 to 32: a call that only answers changes nothing", RefusedTest::withYard);
        refused("inside", x -> x.inside(5), 2);
        refused("ofMan", x -> x.ofMan(2, 3), 6);
        refused("far", x -> x.far(0, 5), 3);
        refused("ears", x -> x.ears(1), 5);
        answered("plan", x -> x.plan(1, 1, 0, 3, 0), 9);
        refused("quiet", x -> x.quiet(0), 2);
        refused("stuck", FortyJars::stuck, 0);
        refused("soonest", FortyJars::soonest, 10);
        refused("most", FortyJars::most, 7);
        refused("without", x -> x.without(0), 7);
        refused("holds", FortyJars::holds, 1);
        refused("hearing", x -> x.hearing(0), 3);
        refused("kinds", x -> x.kinds(2), 7);
        answered("odds", x -> (int) x.odds(1, 1, 0, 3, 1), 2);
        answered("cell", x -> (int) x.cell(2, 1, 2), -5);
        answered("as", x -> x.as(2, 2), 1);
        refused("trace", FortyJars::trace, 2831141);
        refused("fault", FortyJars::fault, 2);
        refused("many", x -> x.many(4), 17);
    }
}
