/** Promises 1 to 9: the smallest and the largest that is taken, the first on each side that is not. */
public final class YardEdgesTest {
    private static final Check check = new Check();
    /** The largest text there is: 24 cells, 6 men, 37 codes. */
    private static final String LARGEST = "y46;m0w1c2m3w4c5;o.....;......;.....o";

    public static void main(String[] args) {
        newObject();
        high();
        wide();
        sizes();
        codes();
        ears();
        oils();
        men();
        tooSoon();
        tooLong();
        placesInSheet();
        noCells();
        anew();
        notTaken();
        numbering();
        kinds();
        reaches();
        sleeping();
        apart();
        can();
        sign();
        dozing();
        hearers();
        hearersByEar();
        check.end();
    }

    private static FortyJars taken(String text, int men) {
        FortyJars x = new FortyJars();
        check.due("yard of \"" + text + "\"", Jars.take(x, text), men);
        return x;
    }

    /** A text that is not taken: its first fault; there is no yard behind it. */
    private static void fault(String text, int place) {
        FortyJars x = taken(text, -100 - place);
        check.due("CELLS behind \"" + text + "\"", x.many(0), 0);
        check.due("fault()", x.fault(), 0);
    }

    private static String text(int high, int wide) {
        return "y" + high + wide + (";" + ".".repeat(wide)).repeat(high);
    }

    private static void newObject() {
        check.part("promise 1: 0 ahead of any: trace(), fault(), many(), and no sheet has anything");
        check.due("fault()", new FortyJars().fault(), 0);
        check.due("trace()", new FortyJars().trace(), 0);
        for (int what = 0; what < 6; what++) check.due("many(" + what + ")", new FortyJars().many(what), 0);
        for (int k = 0; k < 4; k++) check.due("lose(" + k + ")", new FortyJars().lose(k), 0);
    }

    private static void high() {
        check.part("promise 2: HIGH is a digit 1 .. 4");
        for (int high = 1; high <= 4; high++) check.due("CELLS", taken(text(high, 2), 0).many(0), 2 * high);
        for (char high : new char[] {'0', '5', '6', '9', '/', ':', '.', ';'}) {
            fault("y" + high + "2;..", 1);
            fault("y" + high, 1);
        }
    }

    private static void wide() {
        check.part("promise 2: WIDE is a digit 2 .. 6");
        for (int wide = 2; wide <= 6; wide++) check.due("CELLS", taken(text(1, wide), 0).many(0), wide);
        for (char wide : new char[] {'0', '1', '7', '8', '9', '/', ':', ';'}) {
            fault("y1" + wide + ";.", 2);
            fault("y1" + wide, 2);
        }
    }

    private static void sizes() {
        check.part("promise 2: HIGH times ; and WIDE cells: one less, one more is not taken");
        for (int high = 1; high <= 4; high++) {
            for (int wide = 2; wide <= 6; wide++) {
                String text = text(high, wide);
                int n = text.length();
                FortyJars x = taken(text, 0);
                check.due("CELLS", x.many(0), high * wide);
                check.due("the last cell", x.inside(high * wide - 1), Jars.NONE);
                check.due("behind it", x.inside(high * wide), Jars.UNKNOWN);
                fault(text.substring(0, n - 1), n - 1);
                fault(text + '.', n);
                fault(text + ';', n);
                fault(text(high, wide - 1).replace("y" + high + (wide - 1), "y" + high + wide), 3 + wide);
                fault(text(high, wide + 1).replace("y" + high + (wide + 1), "y" + high + wide), 4 + wide);
            }
        }
    }

    /** Each code behind a start: only those told go on. */
    private static void onlyThese(String start, String codes) {
        int n = start.length();
        for (int code = -300; code <= 300; code++) {
            FortyJars x = new FortyJars();
            Jars.write(x, 0, 2, start + ' ');
            x.put(0, n, code);
            boolean goesOn = code > 0 && codes.indexOf(code) >= 0;
            check.due("\"" + start + "\" and code " + code, x.yard(0, 2, 0, n + 1), goesOn ? -101 - n : -100 - n);
        }
    }

    private static void codes() {
        check.part("promise 2: FIRST FAULT is the first code with which no text goes on");
        onlyThese("", "y");
        onlyThese("y", "1234");
        onlyThese("y1", "23456");
        onlyThese("y12", ";");
        onlyThese("y13;", ".omwc");
        onlyThese("y13;.", ".omwc");
        onlyThese("y13;o", ".omwc");
        onlyThese("y14;oo", ".mwc");
        onlyThese("y13;m", "012345");
        onlyThese("y13;w", "012345");
        onlyThese("y13;c", "012345");
        onlyThese("y13;m0", ".omwc");
        onlyThese("y22;..", ";");
        onlyThese("y22;c5c5", ";");
        onlyThese("y12;..", "");
        onlyThese("y42;..;..;..;oo", "");
        onlyThese("y26;m0m0m0m0m0m0;", ".o");
        onlyThese("y26;m0m0m0m0m0m0;oo", ".");
        onlyThese("y26;m0m0m0m0m0o;o", ".mwc");
    }

    private static void ears() {
        check.part("promise 2: EAR is a digit 0 .. 5");
        String letters = "mwc";
        for (int kind = 0; kind < 3; kind++) {
            for (int ear = 0; ear <= 5; ear++) {
                FortyJars x = taken("y12;." + letters.charAt(kind) + ear, 1);
                check.due("EAR", x.ofMan(0, 1), ear);
                check.due("kind", x.ofMan(0, 0), kind);
            }
            for (char ear : new char[] {'6', '7', '9', '/', ':', '.', 'o', ';'}) {
                fault("y12;." + letters.charAt(kind) + ear, 6);
                fault("y12;" + letters.charAt(kind) + ear + '.', 5);
            }
        }
    }

    private static void oils() {
        check.part("promise 2: OIL 2 at most; the o of a third one is the first fault");
        for (int oils = 0; oils <= 2; oils++) {
            check.due("OIL", taken("y13;" + "o".repeat(oils) + ".".repeat(3 - oils), 0).many(2), oils);
        }
        fault("y13;ooo", 6);
        fault("y13;ooox", 6);
        fault("y15;o.o.o", 8);
        fault("y32;o.;.o;.o", 11);
        fault("y32;.o;o.;om0", 10);
        fault("y46;......;......;......;...ooo", 30);
    }

    private static void men() {
        check.part("promise 2: MEN 6 at most; the letter of a seventh one is the first fault");
        for (int men = 0; men <= 6; men++) {
            String row = "m0".repeat(men) + ".".repeat(6 - men);
            check.due("MEN", taken("y16;" + row, men).many(1), men);
        }
        for (char letter : new char[] {'m', 'w', 'c'}) {
            fault("y26;m0m1m2m3m4m5;" + letter + "0.....", 17);
            fault("y26;m0m1m2m3m4m5;" + letter, 17);
            fault("y26;m0m1m2m3m4m5;" + letter + "6", 17);
            fault("y42;m0w1;c2m3;w4c5;." + letter + "0", 20);
        }
    }

    private static void tooSoon() {
        check.part("promise 2: of a text that just ends too soon, how many codes there are");
        for (int n = 0; n < LARGEST.length(); n++) fault(LARGEST.substring(0, n), n);
        FortyJars x = new FortyJars();
        Jars.write(x, 0, 0, LARGEST);
        for (int n = 0; n < LARGEST.length(); n++) {
            check.due(n + " of its cells", x.yard(0, 0, 0, n), -100 - n);
        }
        check.due("all its cells", x.yard(0, 0, 0, LARGEST.length()), 6);
    }

    private static void tooLong() {
        check.part("promise 2: a code behind a whole text is the first fault");
        for (String end : new String[] {".", ";", "o", "m0", "y12;..", "\0", " "}) {
            fault("y12;.." + end, 6);
            fault(LARGEST + end, 37);
        }
    }

    private static void placesInSheet() {
        check.part("promise 2: a text of n cells from i on: at the start and at the end of a full sheet of 60");
        for (int lane = 0; lane < 3; lane++) {
            FortyJars x = new FortyJars();
            Jars.write(x, 1, lane, LARGEST + " ".repeat(23));
            check.due("at the start", x.yard(1, lane, 0, 37), 6);
            check.due("one cell more", x.yard(1, lane, 0, 38), -137);
            check.due("all 60", x.yard(1, lane, 0, 60), -137);
            check.due("61", x.yard(1, lane, 0, 61), Jars.INDEX);
            Jars.write(x, 2, lane, " ".repeat(23) + LARGEST);
            check.due("at the end", x.yard(2, lane, 23, 37), 6);
            check.due("one cell ahead", x.yard(2, lane, 22, 38), -100);
            check.due("one cell more", x.yard(2, lane, 23, 38), Jars.INDEX);
            check.due("one cell on", x.yard(2, lane, 24, 37), Jars.INDEX);
            check.due("the last cell", x.yard(2, lane, 59, 1), -100);
            check.due("none, behind the last", x.yard(2, lane, 60, 0), -100);
            check.due("none, beyond", x.yard(2, lane, 61, 0), Jars.INDEX);
        }
    }

    private static void noCells() {
        check.part("promise 2: a row of no cells");
        for (int lane = 0; lane < 3; lane++) {
            FortyJars x = new FortyJars();
            x.sheet(0, lane, 0);
            check.due("none of it", x.yard(0, lane, 0, 0), -100);
            check.due("fault()", x.fault(), 0);
            check.due("one of it", x.yard(0, lane, 0, 1), Jars.INDEX);
            check.due("none from 1 on", x.yard(0, lane, 1, 0), Jars.INDEX);
            check.due("none from -1 on", x.yard(0, lane, -1, 0), Jars.INDEX);
            check.due("fault()", x.fault(), 3);
            check.due("less than none", x.yard(0, lane, 0, -1), Jars.SIZE);
            check.due("fault()", x.fault(), 4);
        }
    }

    private static FortyJars used() {
        FortyJars x = Jars.of("y22;m0o;w1c2");
        x.can(6);
        x.delay(99);
        for (int m = 0; m < 3; m++) x.doze(m, true);
        for (int k = 0; k < 8; k++) x.reading(k % 3, k % 4, true);
        x.tell(1);
        Jars.write(x, 0, 2, 5, 6, 7);
        return x;
    }

    private static void anew() {
        check.part("promise 2: a text that is taken makes all anew, but for sheets and trace");
        FortyJars x = used();
        check.due("yard", Jars.take(x, "y13;c0m1w2"), 3);
        int[] many = {3, 3, 0, 1, 30, 0};
        for (int what = 0; what < 6; what++) check.due("many(" + what + ")", x.many(what), many[what]);
        for (int m = 0; m < 3; m++) check.due("sleeps", x.ofMan(m, 4), 0);
        check.due("kind", x.ofMan(0, 0), 2);
        check.due("EAR", x.ofMan(1, 1), 1);
        check.due("CELL", x.ofMan(2, 2), 2);
        check.due("holds()", x.holds(), 1);
        check.due("hearing(0)", x.hearing(0), 63);
        check.due("trace", x.trace(), 31 * 2 + 1);
        check.due("a sheet's lane", x.cell(0, 2, 2), 7);
        check.due("a sheet's cell behind the last", x.cell(0, 3, 2), Jars.LOST);
    }

    private static void notTaken() {
        check.part("promise 2: a text that is not taken changes nothing, wherever its first fault is");
        String text = "y22;m0o;w1c2";
        for (int place = 0; place <= text.length(); place++) {
            FortyJars x = used();
            String broken = place < text.length() ? text.substring(0, place) + 'x' + text.substring(place + 1) : text + 'x';
            check.due("yard", Jars.take(x, broken), -100 - place);
            int[] many = {4, 3, 1, 6, 99, 8};
            for (int what = 0; what < 6; what++) check.due("many(" + what + ")", x.many(what), many[what]);
            for (int m = 0; m < 3; m++) check.due("sleeps", x.ofMan(m, 4), 1);
            check.due("holds()", x.holds(), 0);
            check.due("trace", x.trace(), 31 * 2 + 1);
            check.due("cell", x.cell(0, 2, 2), 7);
        }
    }

    private static void numbering() {
        check.part("promise 3: cells by rows from above, from the left; men and oil as they come");
        FortyJars x = taken("y42;m0o;w1c2;om3;w4c5", 6);
        int[] want = {0, 6, 1, 2, 7, 3, 4, 5};
        for (int c = 0; c < 8; c++) check.due("inside(" + c + ")", x.inside(c), want[c]);
        for (int far : new int[] {-1, 8, Integer.MIN_VALUE, Integer.MAX_VALUE}) {
            check.due("inside(" + far + ")", x.inside(far), Jars.UNKNOWN);
        }
        int[] places = {0, 2, 3, 5, 6, 7};
        for (int m = 0; m < 6; m++) check.due("CELL of " + m, x.ofMan(m, 2), places[m]);
        x = taken("y46;o.....;......;......;.....m0", 1);
        check.due("inside(0)", x.inside(0), 6);
        check.due("inside(1)", x.inside(1), Jars.NONE);
        check.due("inside(22)", x.inside(22), Jars.NONE);
        check.due("inside(23)", x.inside(23), 0);
        check.due("inside(24)", x.inside(24), Jars.UNKNOWN);
    }

    private static void kinds() {
        check.part("promise 4: m, w, c are kinds 0, 1, 2; men 0 .. 5, what 0 .. 4");
        FortyJars x = taken("y16;m0w1c2m3w4c5", 6);
        for (int m = 0; m < 6; m++) {
            check.due("kind of " + m, x.ofMan(m, 0), m % 3);
            check.due("EAR of " + m, x.ofMan(m, 1), m);
            check.due("CELL of " + m, x.ofMan(m, 2), m);
            check.due("sleeps, " + m, x.ofMan(m, 4), 0);
            check.due("what -1", x.ofMan(m, -1), Jars.OUTSIDE);
            check.due("what 5", x.ofMan(m, 5), Jars.OUTSIDE);
        }
        for (int m : new int[] {-1, 6, 7, Integer.MIN_VALUE, Integer.MAX_VALUE}) {
            for (int what = -1; what <= 5; what++) check.due("ofMan(" + m + ")", x.ofMan(m, what), Jars.UNKNOWN);
        }
    }

    private static void reaches() {
        check.part("promise 4: how far a man, a watchful one, a chief hears with each ear");
        for (int ear = 0; ear <= 5; ear++) {
            check.due("m" + ear, taken("y12;.m" + ear, 1).ofMan(0, 3), ear);
            check.due("w" + ear, taken("y12;.w" + ear, 1).ofMan(0, 3), ear + 1);
            check.due("c" + ear, taken("y12;.c" + ear, 1).ofMan(0, 3), 2 * ear + 2);
        }
    }

    private static void sleeping() {
        check.part("promises 4, 8, 9: one who sleeps hears nothing, not even in his own cell; how far he hears is told awake");
        FortyJars x = taken("y13;m0w0c5", 3);
        for (int m = 0; m < 3; m++) {
            int reach = x.ofMan(m, 3);
            check.due("doze", x.doze(m, true), 1);
            check.due("how far, awake", x.ofMan(m, 3), reach);
            check.due("in his own cell", x.ears(m) >> m & 1, 0);
            for (int c = 0; c < 3; c++) check.due("ears(" + c + ")", x.ears(c) >> m & 1, 0);
        }
        for (int m = 0; m < 3; m++) {
            check.due("awake again", x.doze(m, false), 1);
            check.due("in his own cell", x.ears(m) >> m & 1, 1);
        }
    }

    private static void apart() {
        check.part("promise 5: far, from 0 (one cell) to 8 (corners of the largest yard)");
        FortyJars x = taken(text(4, 6), 0);
        int[][] want = {{0, 0, 0}, {23, 23, 0}, {0, 5, 5}, {0, 18, 3}, {0, 23, 8}, {5, 18, 8}, {5, 6, 6}, {11, 12, 6}, {8, 15, 2}};
        for (int[] row : want) {
            check.due("far(" + row[0] + ", " + row[1] + ")", x.far(row[0], row[1]), row[2]);
            check.due("far(" + row[1] + ", " + row[0] + ")", x.far(row[1], row[0]), row[2]);
        }
        for (int c : new int[] {-1, 24, Integer.MIN_VALUE, Integer.MAX_VALUE}) {
            check.due("far(" + c + ", 23)", x.far(c, 23), Jars.UNKNOWN);
            check.due("far(23, " + c + ")", x.far(23, c), Jars.UNKNOWN);
            check.due("far(" + c + ", " + c + ")", x.far(c, c), Jars.UNKNOWN);
        }
        x = taken(text(4, 2), 0);
        check.due("far(0, 7)", x.far(0, 7), 4);
        check.due("far(0, 8)", x.far(0, 8), Jars.UNKNOWN);
    }

    private static void can() {
        check.part("promise 6: the can holds 1 .. 6, 1 at first");
        FortyJars x = taken("y12;m0o", 1);
        int held = 1;
        for (int v : new int[] {6, 1, 2, 3, 4, 5, 6, 6}) {
            check.due("can(" + v + ")", x.can(v), held);
            held = v;
            for (int far : new int[] {0, 7, -1, 8, Integer.MIN_VALUE, Integer.MAX_VALUE}) {
                check.due("can(" + far + ")", x.can(far), Jars.OUTSIDE);
            }
            check.due("many(3)", x.many(3), v);
        }
    }

    private static void sign() {
        check.part("promise 7: the sign is in minute 0 .. 99, 30 at first");
        FortyJars x = taken("y12;m0o", 1);
        int was = 30;
        for (int v : new int[] {0, 99, 1, 98, 50, 50, 0}) {
            check.due("delay(" + v + ")", x.delay(v), was);
            was = v;
            for (int far : new int[] {-1, 100, 101, Integer.MIN_VALUE, Integer.MAX_VALUE}) {
                check.due("delay(" + far + ")", x.delay(far), Jars.OUTSIDE);
            }
            check.due("many(4)", x.many(4), v);
        }
    }

    private static void dozing() {
        check.part("promise 8: men 0 .. 5 sleep one by one; 0 if it was so");
        FortyJars x = taken("y16;m0m1w2w3c4c5", 6);
        for (boolean is : new boolean[] {true, false}) {
            for (int m = 0; m < 6; m++) {
                check.due("doze(" + m + ", " + is + ")", x.doze(m, is), 1);
                check.due("it was so", x.doze(m, is), 0);
                for (int other = 0; other < 6; other++) {
                    check.due("sleeps, " + other, x.ofMan(other, 4), (other <= m) == is ? 1 : 0);
                }
            }
        }
        for (int m : new int[] {-1, 6, 31, 32, 33, -32, Integer.MIN_VALUE, Integer.MAX_VALUE}) {
            check.due("doze(" + m + ", true)", x.doze(m, true), Jars.UNKNOWN);
        }
        for (int m = 0; m < 6; m++) check.due("sleeps, " + m, x.ofMan(m, 4), 0);
    }

    private static void hearers() {
        check.part("promise 9: one hears as far as he hears and no farther; from nobody (0) to all six (63)");
        FortyJars x = taken("y16;m2.....", 1);
        int[] man = {1, 1, 1, 0, 0, 0};
        for (int c = 0; c < 6; c++) check.due("m2, " + c + " far", x.ears(c), man[c]);
        x = taken("y16;w2.....", 1);
        int[] watchful = {1, 1, 1, 1, 0, 0};
        for (int c = 0; c < 6; c++) check.due("w2, " + c + " far", x.ears(c), watchful[c]);
        x = taken("y46;c2.....;......;......;......", 1);
        check.due("c2, 6 far", x.ears(15), 1);
        check.due("c2, 6 far", x.ears(20) * 2 + x.ears(10), 2 + 1);
        check.due("c2, 7 far", x.ears(22) * 2 + x.ears(17), 0);
        check.due("c2, 8 far", x.ears(23), 0);
        x = taken("y16;m5m5m5m5m5m5", 6);
        for (int c = 0; c < 6; c++) check.due("all", x.ears(c), 63);
        for (int m = 0; m < 6; m++) {
            x.doze(m, true);
            check.due("those who are awake", x.ears(0), 63 & -2 << m);
        }
        x = taken("y16;m0m0m0m0m0m0", 6);
        for (int c = 0; c < 6; c++) check.due("one who is in it, too", x.ears(c), 1 << c);
        for (int c : new int[] {-1, 6, Integer.MIN_VALUE, Integer.MAX_VALUE}) {
            check.due("ears(" + c + ")", x.ears(c), Jars.UNKNOWN);
        }
    }

    private static void hearersByEar() {
        check.part("promise 9: how far each kind hears by ears 0 .. 5, in the largest yard");
        for (int ear = 0; ear <= 5; ear++) {
            int[] reach = {ear, ear + 1, 2 * ear + 2};
            for (int kind = 0; kind < 3; kind++) {
                FortyJars x = taken("y46;......;......;......;" + "mwc".charAt(kind) + ear + ".....", 1);
                for (int c = 0; c < 24; c++) {
                    boolean heard = 3 - c / 6 + c % 6 <= reach[kind];
                    check.due("ears(" + c + ")", x.ears(c), heard ? 1 : 0);
                }
            }
        }
    }
}
