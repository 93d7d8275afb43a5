/** Promises 22 to 32: the edges of sheets, parts. */
public final class SheetEdgesTest {
    private static final Check check = new Check();
    private static final int MIN = Integer.MIN_VALUE, MAX = Integer.MAX_VALUE;
    private static final int[] LENGTHS = {0, 1, 2, 59, 60};
    private static final String SIX = "y16;m0w1c2m3w4c5";

    public static void main(String[] args) {
        howManyCells();
        whichSheet();
        newRow();
        sizeAndOutside();
        losing();
        ends();
        bytesWrap();
        shortsWrap();
        intsDoNot();
        cellLanes();
        copyAll();
        copyNone();
        copyBeyond();
        copyOverlap();
        copyCut();
        copyFaults();
        tellEdges();
        askEdges();
        asEdges();
        traceWraps();
        faultNumbers();
        faultOfRefused();
        faultStays();
        manyEdges();
        manyCalls();
        check.end();
    }

    // ---- promises 22, 23

    private static void howManyCells() {
        check.part("promise 22: a row of 0 .. 60 numbers, 0 at first, of each lane");
        for (int lane = 0; lane < 3; lane++) {
            for (int n : LENGTHS) {
                FortyJars x = new FortyJars();
                check.due("sheet", x.sheet(0, lane, n), 1);
                check.due("fault()", x.fault(), 0);
                for (int i = 0; i < n; i++) check.due("0 at first", x.cell(0, i, lane), 0);
                check.due("behind the last", x.cell(0, n, lane), Jars.LOST);
                check.due("fault()", x.fault(), 3);
                check.due("ahead of the first", x.cell(0, -1, lane), Jars.LOST);
                check.due("fault()", x.fault(), 3);
            }
        }
    }

    private static void whichSheet() {
        check.part("promises 22, 23: sheets 0 .. 3, each its own");
        FortyJars x = new FortyJars();
        for (int k = 0; k < 4; k++) {
            check.due("sheet(" + k + ")", x.sheet(k, 2, 60), 1);
            for (int other = 0; other < 4; other++) {
                check.due("put in " + other, x.put(other, 59, 10 * k + other), other <= k ? 1 : Jars.NULL);
            }
            x.put(k, 0, k + 1);
        }
        for (int k = 0; k < 4; k++) {
            check.due("first of " + k, x.cell(k, 0, 2), k + 1);
            check.due("last of " + k, x.cell(k, 59, 2), 30 + k);
        }
        for (int k = 0; k < 4; k++) {
            check.due("lose(" + k + ")", x.lose(k), 1);
            for (int other = 0; other < 4; other++) {
                check.due("cell of " + other, x.cell(other, 0, 2), other <= k ? Jars.LOST : other + 1);
            }
        }
        for (int k : new int[] {-1, 4, 5, 32, MIN, MAX}) {
            check.due("sheet(" + k + ")", x.sheet(k, 0, 0), Jars.UNKNOWN);
            check.due("lose(" + k + ")", x.lose(k), Jars.UNKNOWN);
        }
    }

    private static void newRow() {
        check.part("promise 22: a new row takes the old one's place: longer, shorter, of another lane");
        for (int lane = 0; lane < 3; lane++) {
            FortyJars x = new FortyJars();
            Jars.write(x, 1, (lane + 1) % 3, new int[60]);
            for (int n : LENGTHS) {
                check.due("sheet", x.sheet(1, lane, n), 1);
                for (int i = 0; i < n; i++) check.due("0 at first", x.cell(1, i, lane), 0);
                if (n > 0) check.due("put", x.put(1, 0, 7) + x.put(1, n - 1, 7), 2);
                check.due("behind the last", x.put(1, n, 7), Jars.INDEX);
                for (int other = 0; other < 3; other++) {
                    if (other == lane) continue;
                    check.due("another lane", x.cell(1, 0, other), Jars.LOST);
                    check.due("fault()", x.fault(), 2);
                }
            }
            for (int n = 60; n >= 0; n -= 20) {
                check.due("shorter", x.sheet(1, lane, n), 1);
                check.due("behind the last", x.put(1, n, 7), Jars.INDEX);
            }
        }
    }

    private static void sizeAndOutside() {
        check.part("promise 22: n above 60 is OUTSIDE, n below 0 is SIZE, and the old row stays");
        FortyJars x = new FortyJars();
        Jars.write(x, 0, 1, 5, 6);
        for (int n : new int[] {61, 62, 100, MAX}) {
            check.due("sheet of " + n, x.sheet(0, 0, n), Jars.OUTSIDE);
            check.due("fault()", x.fault(), 0);
            check.due("sheet of " + n + ", of no lane", x.sheet(0, 3, n), Jars.OUTSIDE);
        }
        for (int n : new int[] {-1, -2, -60, MIN}) {
            check.due("sheet of " + n, x.sheet(0, 0, n), Jars.SIZE);
            check.due("fault()", x.fault(), 4);
            check.due("sheet of " + n + ", of no lane", x.sheet(0, -1, n), Jars.OUTSIDE);
            check.due("fault()", x.fault(), 0);
            check.due("sheet of " + n + ", unknown", x.sheet(4, 0, n), Jars.UNKNOWN);
        }
        check.due("the old row", x.cell(0, 1, 1), 6);
        check.due("the old row", x.put(0, 2, 1), Jars.INDEX);
        check.due("a sheet of nothing", x.sheet(1, 0, -1), Jars.SIZE);
        check.due("has nothing", x.put(1, 0, 1), Jars.NULL);
    }

    private static void losing() {
        check.part("promise 23: 1 as it had a row, of no cells, too; 0 as it had nothing");
        FortyJars x = new FortyJars();
        for (int k = 0; k < 4; k++) {
            for (int lane = 0; lane < 3; lane++) {
                for (int n : LENGTHS) {
                    x.sheet(k, lane, n);
                    check.due("lose(" + k + ")", x.lose(k), 1);
                    check.due("again", x.lose(k), 0);
                    check.due("nothing", x.put(k, 0, 1), Jars.NULL);
                }
            }
        }
    }

    // ---- promises 24, 25

    private static void ends() {
        check.part("promises 24, 25: the first and the last cell, none beyond");
        for (int lane = 0; lane < 3; lane++) {
            for (int n : LENGTHS) {
                FortyJars x = new FortyJars();
                x.sheet(2, lane, n);
                for (int i : new int[] {0, n - 1}) {
                    if (n == 0) continue;
                    check.due("put(" + i + ")", x.put(2, i, 9), 1);
                    check.due("fault()", x.fault(), 0);
                    check.due("cell(" + i + ")", x.cell(2, i, lane), 9);
                    check.due("fault()", x.fault(), 0);
                }
                for (int i : new int[] {-1, n, n + 1, 60, MIN, MAX}) {
                    check.due("put(" + i + ")", x.put(2, i, 8), Jars.INDEX);
                    check.due("fault()", x.fault(), 3);
                    check.due("cell(" + i + ")", x.cell(2, i, lane), Jars.LOST);
                    check.due("fault()", x.fault(), 3);
                }
                for (int i = 0; i < n; i++) {
                    check.due("cell " + i, x.cell(2, i, lane), i == 0 || i == n - 1 ? 9 : 0);
                }
            }
        }
    }

    private static void cut(int lane, int[][] pairs) {
        FortyJars x = new FortyJars();
        x.sheet(0, lane, 1);
        for (int[] pair : pairs) {
            check.due("put", x.put(0, 0, pair[0]), 1);
            check.due("cut of " + pair[0], x.cell(0, 0, lane), pair[1]);
        }
    }

    private static void bytesWrap() {
        check.part("promise 24: bytes are cut with their sign: 127 is the largest, 128 wraps to -128");
        cut(0, new int[][] {{0, 0}, {127, 127}, {128, -128}, {129, -127}, {-128, -128}, {-129, 127}, {255, -1}, {256, 0},
            {-1, -1}, {-255, 1}, {-256, 0}, {300, 44}, {32767, -1}, {32768, 0}, {70001, 113}, {MAX, -1}, {MIN, 0}});
    }

    private static void shortsWrap() {
        check.part("promise 24: shorts are cut with their sign: 32767 is the largest, 32768 wraps to -32768");
        cut(1, new int[][] {{0, 0}, {127, 127}, {128, 128}, {256, 256}, {32767, 32767}, {32768, -32768}, {-32768, -32768},
            {-32769, 32767}, {65535, -1}, {65536, 0}, {-65536, 0}, {70001, 4465}, {MAX, -1}, {MIN, 0}});
    }

    private static void intsDoNot() {
        check.part("promise 24: ints are kept whole, from the least to the largest");
        cut(2, new int[][] {{0, 0}, {128, 128}, {32768, 32768}, {65536, 65536}, {70001, 70001}, {MAX, MAX}, {MIN, MIN}, {-1, -1}});
    }

    private static void cellLanes() {
        check.part("promise 25: lanes 0 .. 2; another one than the sheet's is a cast, of nothing NULL");
        for (int lane = 0; lane < 3; lane++) {
            FortyJars x = new FortyJars();
            Jars.write(x, 0, lane, -3);
            for (int asked : new int[] {MIN, -1, 0, 1, 2, 3, MAX}) {
                boolean known = asked >= 0 && asked <= 2;
                for (int i : new int[] {-1, 0, 1, MIN, MAX}) {
                    boolean there = asked == lane && i == 0;
                    check.due("cell", x.cell(0, i, asked), there ? -3 : Jars.LOST);
                    check.due("fault()", x.fault(), !known || there ? 0 : asked != lane ? 2 : 3);
                    check.due("of nothing", x.cell(1, i, asked), Jars.LOST);
                    check.due("fault()", x.fault(), known ? 1 : 0);
                }
            }
            check.due("a row of no cells", x.sheet(1, lane, 0), 1);
            check.due("its cell 0", x.cell(1, 0, lane), Jars.LOST);
            check.due("fault()", x.fault(), 3);
            check.due("of another lane", x.cell(1, 0, (lane + 1) % 3), Jars.LOST);
            check.due("fault()", x.fault(), 2);
        }
    }

    // ---- promise 26

    private static void copyAll() {
        check.part("promise 26: all 60 cells of a full sheet go to another one, and to itself");
        for (int lane = 0; lane < 3; lane++) {
            FortyJars x = new FortyJars();
            x.sheet(0, lane, 60);
            x.sheet(3, lane, 60);
            for (int i = 0; i < 60; i++) x.put(0, i, i - 30);
            check.due("copy", x.copy(0, 0, 3, 0, 60), 60);
            check.due("fault()", x.fault(), 0);
            check.due("copy to itself", x.copy(3, 0, 3, 0, 60), 60);
            for (int i = 0; i < 60; i++) check.due("cell " + i, x.cell(3, i, lane), i - 30);
            for (int i = 0; i < 60; i++) check.due("cell " + i, x.cell(0, i, lane), i - 30);
            check.due("61", x.copy(0, 0, 3, 0, 61), Jars.INDEX);
            check.due("60 from 1 on", x.copy(0, 1, 3, 0, 60), Jars.INDEX);
            check.due("60 to 1 on", x.copy(0, 0, 3, 1, 60), Jars.INDEX);
            check.due("the last one", x.copy(0, 0, 3, 59, 1), 1);
            check.due("the last one", x.cell(3, 59, lane), -30);
        }
    }

    private static void copyNone() {
        check.part("promise 26: none from 0 .. how many there are; of and to a row of no cells");
        FortyJars x = new FortyJars();
        Jars.write(x, 0, 1, 1, 2, 3);
        x.sheet(1, 1, 0);
        for (int i = 0; i <= 3; i++) {
            for (int j = 0; j <= 3; j++) check.due("none", x.copy(0, i, 0, j, 0), 0);
            check.due("none to no cells", x.copy(0, i, 1, 0, 0), 0);
            check.due("none of no cells", x.copy(1, 0, 0, i, 0), 0);
            check.due("none to 1 of no cells", x.copy(0, i, 1, 1, 0), Jars.INDEX);
            check.due("none of 1 of no cells", x.copy(1, 1, 0, i, 0), Jars.INDEX);
        }
        check.due("no cells to no cells", x.copy(1, 0, 1, 0, 0), 0);
        check.due("fault()", x.fault(), 0);
        for (int far : new int[] {-1, 4, MIN, MAX}) {
            check.due("none from " + far, x.copy(0, far, 0, 0, 0), Jars.INDEX);
            check.due("fault()", x.fault(), 3);
            check.due("none to " + far, x.copy(0, 0, 0, far, 0), Jars.INDEX);
            check.due("fault()", x.fault(), 3);
        }
        for (int i = 0; i < 3; i++) check.due("cell " + i, x.cell(0, i, 1), i + 1);
    }

    private static void copyBeyond() {
        check.part("promise 26: n below 0 or beyond is INDEX, not SIZE; sums that wrap around, too");
        FortyJars x = new FortyJars();
        Jars.write(x, 0, 2, 1, 2, 3);
        Jars.write(x, 1, 2, 4, 5);
        for (int n : new int[] {-1, -3, MIN, MAX, 4}) {
            for (int i = 0; i <= 3; i++) {
                check.due("copy", x.copy(0, i, 1, 0, n), Jars.INDEX);
                check.due("fault()", x.fault(), 3);
                check.due("copy", x.copy(1, 0, 0, i, n), Jars.INDEX);
            }
        }
        for (int i : new int[] {MAX, MAX - 1, MIN, MIN + 1}) {
            for (int n : new int[] {1, 2, MAX, MIN}) {
                check.due("copy", x.copy(0, i, 1, 0, n), Jars.INDEX);
                check.due("copy", x.copy(0, 0, 1, i, n), Jars.INDEX);
            }
        }
        check.due("the first's are beyond", x.copy(0, 2, 1, 0, 2), Jars.INDEX);
        check.due("the other's are beyond", x.copy(0, 0, 1, 1, 2), Jars.INDEX);
        check.due("just not", x.copy(0, 1, 1, 0, 2), 2);
        check.due("cell", x.cell(1, 0, 2), 2);
        check.due("cell", x.cell(1, 1, 2), 3);
    }

    private static void copyOverlap() {
        check.part("promise 26: cells go as they were, as the places overlap");
        for (int i = 0; i < 6; i++) {
            for (int j = 0; j < 6; j++) {
                int n = 6 - Math.max(i, j);
                FortyJars x = new FortyJars();
                Jars.write(x, 0, 0, 10, 11, 12, 13, 14, 15);
                check.due("copy", x.copy(0, i, 0, j, n), n);
                for (int at = 0; at < 6; at++) {
                    boolean copied = at >= j && at < j + n;
                    check.due("cell " + at, x.cell(0, at, 0), copied ? 10 + at - j + i : 10 + at);
                }
            }
        }
    }

    private static void copyCut() {
        check.part("promise 26: the least and the largest of each lane go as they were");
        int[][] ends = {{-128, 127}, {-32768, 32767}, {MIN, MAX}};
        for (int lane = 0; lane < 3; lane++) {
            FortyJars x = new FortyJars();
            Jars.write(x, 0, lane, ends[lane]);
            x.sheet(1, lane, 2);
            check.due("copy", x.copy(0, 0, 1, 0, 2), 2);
            for (int i = 0; i < 2; i++) check.due("cell", x.cell(1, i, lane), ends[lane][i]);
        }
    }

    private static void copyFaults() {
        check.part("promise 26: NULL (the first, the other), then CAST, then INDEX; of rows of no cells, too");
        FortyJars x = new FortyJars();
        check.due("nothing to nothing", x.copy(0, 0, 1, 0, 0), Jars.NULL);
        check.due("nothing to itself", x.copy(0, 0, 0, 0, 0), Jars.NULL);
        check.due("fault()", x.fault(), 1);
        x.sheet(0, 0, 0);
        check.due("to nothing", x.copy(0, -1, 1, -1, -1), Jars.NULL);
        check.due("of nothing", x.copy(1, -1, 0, -1, -1), Jars.NULL);
        for (int lane = 1; lane < 3; lane++) {
            x.sheet(1, lane, 0);
            check.due("unlike lanes", x.copy(0, 0, 1, 0, 0), Jars.CAST);
            check.due("unlike lanes", x.copy(1, -1, 0, -1, -1), Jars.CAST);
            check.due("fault()", x.fault(), 2);
        }
        x.sheet(1, 0, 0);
        check.due("like lanes", x.copy(0, 0, 1, 0, 0), 0);
        check.due("fault()", x.fault(), 0);
        check.due("index", x.copy(0, 0, 1, 0, 1), Jars.INDEX);
        check.due("fault()", x.fault(), 3);
        check.due("refused", x.copy(0, 0, 4, 0, 1), Jars.UNKNOWN);
        check.due("fault()", x.fault(), 0);
    }

    // ---- promises 27 to 30

    private static void tellEdges() {
        check.part("promise 27: men 0 .. 5 tell by their kind's bodies, in the order in which they begin");
        int[] told = {0, 101, 104, 3, 104, 110};
        int[] traces = {1, 63, 91327, 1, 63, 91327};
        for (int m = 0; m < 6; m++) {
            FortyJars x = Jars.of(SIX);
            check.due("tell(" + m + ")", x.tell(m), told[m]);
            check.due("trace()", x.trace(), traces[m]);
        }
        FortyJars x = Jars.of(SIX);
        for (int m : new int[] {-1, 6, 7, 32, MIN, MAX}) check.due("tell(" + m + ")", x.tell(m), Jars.UNKNOWN);
        check.due("trace()", x.trace(), 0);
    }

    private static void askEdges() {
        check.part("promise 28: men 0 .. 5 are asked their number, chiefs 70");
        int[] asked = {0, 1, 70, 3, 4, 70};
        for (int m = 0; m < 6; m++) {
            FortyJars x = Jars.of(SIX);
            check.due("ask(" + m + ")", x.ask(m), asked[m]);
            check.due("trace()", x.trace(), asked[m] == 70 ? 5 : 4);
        }
        FortyJars x = Jars.of(SIX);
        for (int m : new int[] {-1, 6, 7, 32, MIN, MAX}) check.due("ask(" + m + ")", x.ask(m), Jars.UNKNOWN);
        check.due("trace()", x.trace(), 0);
    }

    private static void asEdges() {
        check.part("promise 29: kinds 0 .. 2; a chief is a watchful one, a watchful one a man, none the other way");
        int[][] want = {{1, Jars.CAST, Jars.CAST}, {1, 1, Jars.CAST}, {1, 1, 1}};
        FortyJars x = Jars.of(SIX);
        for (int m = 0; m < 6; m++) {
            for (int kind = 0; kind < 3; kind++) {
                check.due("as(" + m + ", " + kind + ")", x.as(m, kind), want[m % 3][kind]);
                check.due("fault()", x.fault(), want[m % 3][kind] == 1 ? 0 : 2);
            }
            for (int kind : new int[] {-1, 3, MIN, MAX}) {
                check.due("as(" + m + ", " + kind + ")", x.as(m, kind), Jars.OUTSIDE);
                check.due("fault()", x.fault(), 0);
            }
        }
        for (int m : new int[] {-1, 6, 32, MIN, MAX}) {
            check.due("as(" + m + ", 0)", x.as(m, 0), Jars.UNKNOWN);
            check.due("as(" + m + ", 3)", x.as(m, 3), Jars.UNKNOWN);
        }
        check.due("trace()", x.trace(), 0);
    }

    private static void traceWraps() {
        check.part("promise 30: the trace is an int that wraps around");
        FortyJars x = Jars.of(SIX);
        int[] chiefs = {91327, -1556852226, 1822459837, -1787968004, -52179781, 409623546};
        for (int k = 0; k < chiefs.length; k++) {
            x.tell(2);
            check.due("trace(), told " + (k + 1) + " times", x.trace(), chiefs[k]);
        }
        FortyJars y = Jars.of(SIX);
        int[] asked = {4, 128, 3972, 123136, 3817220, 118333824, -626618748, 2049655296};
        for (int want : asked) {
            y.ask(0);
            check.due("trace(), asked", y.trace(), want);
        }
        check.due("another object's is its own", x.trace(), chiefs[chiefs.length - 1]);
        check.due("a text leaves it", Jars.take(y, SIX), 6);
        check.due("trace()", y.trace(), 2049655296);
    }

    // ---- promises 31, 32

    private static FortyJars ready() {
        FortyJars x = Jars.of("y12;m0o");
        Jars.write(x, 0, 0, 6, 0);
        Jars.write(x, 1, 1, 6, 0);
        return x;
    }

    private static void faultNumbers() {
        check.part("promise 31: each fault of each call tells its number: 1 NULL, 2 CAST, 3 INDEX, 4 SIZE");
        FortyJars x = ready();
        check.due("yard", x.yard(2, 0, 0, 0) * 10 + x.fault(), -110 + 1);
        check.due("yard", x.yard(0, 1, 0, 0) * 10 + x.fault(), -120 + 2);
        check.due("yard", x.yard(0, 0, 3, 0) * 10 + x.fault(), -130 + 3);
        check.due("yard", x.yard(0, 0, 0, -1) * 10 + x.fault(), -140 + 4);
        check.due("plan", x.plan(2, 0, 0, 0, 0) * 10 + x.fault(), -110 + 1);
        check.due("plan", x.plan(0, 1, 0, 0, 0) * 10 + x.fault(), -120 + 2);
        check.due("plan", x.plan(0, 0, 3, 0, 0) * 10 + x.fault(), -130 + 3);
        check.due("odds", x.odds(2, 0, 0, 0, 0) + x.fault(), Jars.LOST + 1);
        check.due("odds", x.odds(0, 1, 0, 0, 0) + x.fault(), Jars.LOST + 2);
        check.due("odds", x.odds(0, 0, 3, 0, 0) + x.fault(), Jars.LOST + 3);
        check.due("sheet", x.sheet(2, 0, -1) * 10 + x.fault(), -140 + 4);
        check.due("put", x.put(2, 0, 0) * 10 + x.fault(), -110 + 1);
        check.due("put", x.put(0, 2, 0) * 10 + x.fault(), -130 + 3);
        check.due("cell", x.cell(2, 0, 0) + x.fault(), Jars.LOST + 1);
        check.due("cell", x.cell(0, 0, 1) + x.fault(), Jars.LOST + 2);
        check.due("cell", x.cell(0, 2, 0) + x.fault(), Jars.LOST + 3);
        check.due("copy", x.copy(2, 0, 0, 0, 0) * 10 + x.fault(), -110 + 1);
        check.due("copy", x.copy(0, 0, 1, 0, 0) * 10 + x.fault(), -120 + 2);
        check.due("copy", x.copy(0, 0, 0, 0, 3) * 10 + x.fault(), -130 + 3);
        check.due("as", x.as(0, 1) * 10 + x.fault(), -120 + 2);
        check.due("fault() asked again", x.fault(), 2);
    }

    private static void zero(FortyJars x, String call, long answer, long want) {
        check.due(call, answer, want);
        check.due("fault() behind " + call, x.fault(), 0);
        x.as(0, 1);
        check.due("fault() of as()", x.fault(), 2);
    }

    private static void faultOfRefused() {
        check.part("promise 31: 0, as the latest call that names one came to none, or was refused");
        FortyJars x = ready();
        x.as(0, 1);
        zero(x, "yard()", x.yard(4, 0, 0, 0), Jars.UNKNOWN);
        zero(x, "yard()", x.yard(0, 3, 0, 0), Jars.OUTSIDE);
        zero(x, "yard()", x.yard(0, 0, 0, 2), -100);
        zero(x, "plan()", x.plan(4, 0, 0, 0, 0), Jars.UNKNOWN);
        zero(x, "plan()", x.plan(0, 0, 0, 21, 0), Jars.OUTSIDE);
        zero(x, "plan()", x.plan(0, 0, 1, 1, 0), -100);
        zero(x, "plan()", x.plan(0, 0, 0, 2, 2), 1);
        zero(x, "odds()", x.odds(4, 0, 0, 0, 0), Jars.LOST);
        zero(x, "odds()", x.odds(0, 0, 0, 0, 2), Jars.LOST);
        zero(x, "odds()", x.odds(0, 0, 1, 1, 0), Jars.LOST);
        zero(x, "odds()", x.odds(0, 0, 0, 2, 0), 1);
        zero(x, "sheet()", x.sheet(4, 0, 0), Jars.UNKNOWN);
        zero(x, "sheet()", x.sheet(0, 0, 61), Jars.OUTSIDE);
        zero(x, "put()", x.put(4, 0, 0), Jars.UNKNOWN);
        zero(x, "put()", x.put(0, 0, 6), 1);
        zero(x, "cell()", x.cell(4, 0, 0), Jars.LOST);
        zero(x, "cell()", x.cell(0, 0, 3), Jars.LOST);
        zero(x, "cell()", x.cell(0, 0, 0), 6);
        zero(x, "copy()", x.copy(4, 0, 0, 0, 0), Jars.UNKNOWN);
        zero(x, "copy()", x.copy(0, 0, 0, 0, 2), 2);
        zero(x, "as()", x.as(1, 0), Jars.UNKNOWN);
        zero(x, "as()", x.as(0, 3), Jars.OUTSIDE);
        zero(x, "as()", x.as(0, 0), 1);
        zero(x, "sheet()", x.sheet(2, 0, 0), 1);
        Jars.write(x, 2, 0, "y12;w0.");
        x.as(0, 1);
        check.due("yard()", x.yard(2, 0, 0, 7), 1);
        check.due("fault()", x.fault(), 0);
        FortyJars none = new FortyJars();
        none.put(0, 0, 0);
        check.due("plan(), no yard", none.plan(0, 0, 0, 0, 0), Jars.STATE);
        check.due("fault()", none.fault(), 0);
        none.put(0, 0, 0);
        check.due("odds(), no yard", none.odds(0, 0, 0, 0, 0), Jars.LOST);
        check.due("fault()", none.fault(), 0);
    }

    private static void stays(FortyJars x, String call, long answer, long want) {
        check.due(call, answer, want);
        check.due("fault() behind " + call, x.fault(), 2);
    }

    private static void faultStays() {
        check.part("promise 31: a call that names no fault leaves it, refused or not");
        FortyJars x = ready();
        x.as(0, 1);
        stays(x, "inside()", x.inside(0), 0);
        stays(x, "inside()", x.inside(2), Jars.UNKNOWN);
        stays(x, "ofMan()", x.ofMan(0, 5), Jars.OUTSIDE);
        stays(x, "far()", x.far(0, 2), Jars.UNKNOWN);
        stays(x, "can()", x.can(2), 1);
        stays(x, "can()", x.can(7), Jars.OUTSIDE);
        stays(x, "delay()", x.delay(100), Jars.OUTSIDE);
        stays(x, "delay()", x.delay(99), 30);
        stays(x, "doze()", x.doze(1, true), Jars.UNKNOWN);
        stays(x, "doze()", x.doze(0, true), 1);
        stays(x, "ears()", x.ears(0), 0);
        stays(x, "ears()", x.ears(-1), Jars.UNKNOWN);
        stays(x, "quiet()", x.quiet(-1), Jars.UNKNOWN);
        stays(x, "quiet()", x.quiet(1), Jars.NONE);
        stays(x, "stuck()", x.stuck(), 0);
        stays(x, "soonest()", x.soonest(), 4);
        stays(x, "most()", x.most(), 1);
        stays(x, "without()", x.without(0), 0);
        stays(x, "without()", x.without(1), Jars.UNKNOWN);
        stays(x, "reading()", x.reading(0, 2, true), Jars.UNKNOWN);
        stays(x, "reading()", x.reading(0, 0, true), 0);
        stays(x, "back()", x.back(2), Jars.OUTSIDE);
        stays(x, "back()", x.back(1), 0);
        stays(x, "holds()", x.holds(), 1);
        stays(x, "hearing()", x.hearing(0), 63);
        stays(x, "kinds()", x.kinds(1), Jars.UNKNOWN);
        stays(x, "lose()", x.lose(0), 1);
        stays(x, "lose()", x.lose(0), 0);
        stays(x, "lose()", x.lose(4), Jars.UNKNOWN);
        stays(x, "tell()", x.tell(0), 0);
        stays(x, "ask()", x.ask(1), Jars.UNKNOWN);
        stays(x, "trace()", x.trace(), 1);
        stays(x, "many()", x.many(6), Jars.OUTSIDE);
        stays(x, "many()", x.many(1), 1);
    }

    private static void manyEdges() {
        check.part("promise 32: what is 0 .. 5; from nothing to the largest yard");
        FortyJars x = Jars.of("y46;m0w1c2m3w4c5;o.....;......;.....o");
        x.can(6);
        x.delay(99);
        for (int k = 0; k < 8; k++) x.reading(0, 0, true);
        int[] most = {24, 6, 2, 6, 99, 8};
        for (int what = 0; what < 6; what++) check.due("many(" + what + ")", x.many(what), most[what]);
        Jars.take(x, "y12;..");
        x.delay(0);
        int[] least = {2, 0, 0, 1, 0, 0};
        for (int what = 0; what < 6; what++) check.due("many(" + what + ")", x.many(what), least[what]);
        for (int what : new int[] {-1, 6, 7, MIN, MAX}) {
            check.due("many(" + what + ")", x.many(what), Jars.OUTSIDE);
            check.due("many(" + what + "), no yard", new FortyJars().many(what), Jars.OUTSIDE);
        }
        for (int what = 0; what < 6; what++) check.due("no yard", new FortyJars().many(what), 0);
    }

    private static void manyCalls() {
        check.part("all promises: the 512th call answers as the first one");
        FortyJars x = Jars.of("y16;om1.w0.c0");
        int soonest = x.soonest();
        for (int call = 17; call <= 512; call++) check.due("soonest()", x.soonest(), soonest);
        FortyJars y = Jars.of("y16;om1.w0.c0");
        for (int call = 16; call + 2 <= 512; call += 3) {
            check.due("tell(0)", y.tell(0), 1);
            check.due("reading", y.reading(0, 0, true), 0);
            check.due("back", y.back(1), 0);
        }
    }
}
