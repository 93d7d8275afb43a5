/** Promises 1 to 9: the new object, the yard. */
public final class YardTest {
    private static final Check check = new Check();

    public static void main(String[] args) {
        newObject();
        constants();
        yardTaken();
        yardFirstFault();
        yardRefused();
        yardAnew();
        inside();
        ofMan();
        far();
        can();
        delay();
        doze();
        ears();
        check.end();
    }

    private static void newObject() {
        check.part("promise 1: a new object has no yard, sheets have nothing");
        FortyJars x = new FortyJars();
        for (int what = 0; what < 6; what++) check.due("many(" + what + ")", x.many(what), 0);
        for (int k = 0; k < 4; k++) {
            check.due("lose(" + k + ")", x.lose(k), 0);
            check.due("put(" + k + ", 0, 1)", x.put(k, 0, 1), Jars.NULL);
            for (int lane = 0; lane < 3; lane++) {
                check.due("cell", x.cell(k, 0, lane), Jars.LOST);
                check.due("fault", x.fault(), 1);
                check.due("yard of nothing", x.yard(k, lane, 0, 0), Jars.NULL);
            }
        }
        x = new FortyJars();
        check.due("fault()", x.fault(), 0);
        check.due("trace()", x.trace(), 0);
        check.due("inside(0)", x.inside(0), Jars.UNKNOWN);
        check.due("ofMan(0, 0)", x.ofMan(0, 0), Jars.UNKNOWN);
        check.due("ofMan(0, 9)", x.ofMan(0, 9), Jars.UNKNOWN);
        check.due("far(0, 0)", x.far(0, 0), Jars.UNKNOWN);
        check.due("doze(0, true)", x.doze(0, true), Jars.UNKNOWN);
        check.due("ears(0)", x.ears(0), Jars.UNKNOWN);
        check.due("without(0)", x.without(0), Jars.UNKNOWN);
        check.due("reading(0, 0, true)", x.reading(0, 0, true), Jars.UNKNOWN);
        check.due("back(0)", x.back(0), 0);
        check.due("back(1)", x.back(1), Jars.OUTSIDE);
        check.due("hearing(0)", x.hearing(0), Jars.UNKNOWN);
        check.due("kinds(0)", x.kinds(0), Jars.UNKNOWN);
        check.due("tell(0)", x.tell(0), Jars.UNKNOWN);
        check.due("ask(0)", x.ask(0), Jars.UNKNOWN);
        check.due("as(0, 0)", x.as(0, 0), Jars.UNKNOWN);
        check.due("trace()", x.trace(), 0);
    }

    private static void constants() {
        check.part("the constants");
        check.due("UNKNOWN", FortyJars.UNKNOWN, -1);
        check.due("OUTSIDE", FortyJars.OUTSIDE, -2);
        check.due("STATE", FortyJars.STATE, -3);
        check.due("FULL", FortyJars.FULL, -4);
        check.due("NONE", FortyJars.NONE, -9);
        check.due("LOST", FortyJars.LOST, Long.MIN_VALUE);
    }

    private static void yardTaken() {
        check.part("promise 2: a yard by a text answers how many men");
        for (int lane = 0; lane < 3; lane++) {
            FortyJars x = new FortyJars();
            String text = "y23;m0.o;w5c3.";
            Jars.write(x, 1, lane, text);
            check.due("yard", x.yard(1, lane, 0, text.length()), 3);
            check.due("fault()", x.fault(), 0);
            Jars.write(x, 2, lane, "zz" + text + "z");
            check.due("yard from 2 on", x.yard(2, lane, 2, text.length()), 3);
            check.due("cells", x.many(0), 6);
            check.due("oil", x.many(2), 1);
        }
        FortyJars x = new FortyJars();
        Jars.write(x, 3, 2, " ".repeat(54) + "y12;.o");
        check.due("the end of the last sheet", x.yard(3, 2, 54, 6), 0);
        check.due("none, behind its end", x.yard(3, 2, 60, 0), -100);
        check.due("smallest", Jars.take(x, "y12;.."), 0);
        check.due("cells", x.many(0), 2);
        check.due("widest", Jars.take(x, "y16;......"), 0);
        check.due("cells", x.many(0), 6);
        check.due("largest", Jars.take(x, "y46;m0w1c2m3w4c5;......;......;o....o"), 6);
        check.due("cells", x.many(0), 24);
        check.due("oil", x.many(2), 2);
        check.due("highest", Jars.take(x, "y42;..;..;..;.o"), 0);
        check.due("cells", x.many(0), 8);
    }

    private static void fault(String text, int place) {
        FortyJars x = new FortyJars();
        check.due("yard of \"" + text + "\"", Jars.take(x, text), -100 - place);
        check.due("fault()", x.fault(), 0);
        check.due("many(0)", x.many(0), 0);
    }

    private static void yardFirstFault() {
        check.part("promise 2: -100 less the first fault");
        String whole = "y23;m0.o;w5c3.";
        for (int n = 0; n < whole.length(); n++) fault(whole.substring(0, n), n);
        for (String end : new String[] {".", ";", "o", "m", "y", "0"}) fault(whole + end, whole.length());
        FortyJars same = new FortyJars();
        Jars.write(same, 0, 0, whole);
        for (int n = 0; n < whole.length(); n++) {
            check.due("whole", same.yard(0, 0, 0, whole.length()), 3);
            check.due("what was taken before is no part of it", same.yard(0, 0, 0, n), -100 - n);
        }
        fault("x23;m0.o;w5c3.", 0);
        fault("Y23;m0.o;w5c3.", 0);
        fault("y03;m0.o;w5c3.", 1);
        fault("y53;m0.o;w5c3.", 1);
        fault("y/3;m0.o;w5c3.", 1);
        fault("y21;m0.o;w5c3.", 2);
        fault("y27;m0.o;w5c3.", 2);
        fault("y23.m0.o;w5c3.", 3);
        fault("y23;x0.o;w5c3.", 4);
        fault("y23;m6.o;w5c3.", 5);
        fault("y23;m/.o;w5c3.", 5);
        fault("y23;m..o;w5c3.", 5);
        fault("y23;c5;o;w5c3.", 6);
        fault("y23;m0.oow5c3.", 8);
        fault("y22;oo;o.", 7);
        fault("y22;oo;.o", 8);
        fault("y24;m0m1m2m3;m4m5.w9", 18);
        fault("y24;m0m1m2m3;m4m5.w", 18);
        fault("y24;m0m1m2m3;m4m5c0.", 17);
        FortyJars x = new FortyJars();
        Jars.write(x, 0, 1, 'y' - 65536, '1', '2', ';', '.', '.' + 256);
        check.due("shorts keep .. + 256", x.yard(0, 1, 0, 6), -105);
        Jars.write(x, 0, 0, 'y' - 65536, '1', '2', ';', '.', '.' + 256);
        check.due("bytes cut it", x.yard(0, 0, 0, 6), 0);
        Jars.write(x, 0, 2, 'y', Integer.MIN_VALUE, '2');
        check.due("a far code", x.yard(0, 2, 0, 3), -101);
        Jars.write(x, 0, 2, 'y', '1', '2', ';', 'm', Integer.MIN_VALUE + 48, '.');
        check.due("a far code", x.yard(0, 2, 0, 7), -105);
        x.sheet(0, 2, 60);
        check.due("zeros", x.yard(0, 2, 0, 60), -100);
    }

    private static void yardRefused() {
        check.part("promise 2: yard's refusals and faults, in their order");
        FortyJars x = new FortyJars();
        check.due("sheet, lane", x.yard(-1, 3, -1, -1), Jars.UNKNOWN);
        check.due("sheet, lane", x.yard(4, -1, -1, -1), Jars.UNKNOWN);
        check.due("lane", x.yard(0, 3, -1, -1), Jars.OUTSIDE);
        check.due("lane", x.yard(0, -1, -1, -1), Jars.OUTSIDE);
        check.due("fault()", x.fault(), 0);
        check.due("nothing is no cast", x.yard(0, 1, -1, -1), Jars.NULL);
        check.due("fault()", x.fault(), 1);
        x.sheet(0, 0, 6);
        check.due("cast", x.yard(0, 1, -1, -1), Jars.CAST);
        check.due("fault()", x.fault(), 2);
        check.due("size ahead of index", x.yard(0, 0, -1, -1), Jars.SIZE);
        check.due("fault()", x.fault(), 4);
        check.due("size", x.yard(0, 0, 0, Integer.MIN_VALUE), Jars.SIZE);
        check.due("i below 0", x.yard(0, 0, -1, 1), Jars.INDEX);
        check.due("fault()", x.fault(), 3);
        check.due("i below 0, none taken", x.yard(0, 0, -1, 0), Jars.INDEX);
        check.due("i beyond, none taken", x.yard(0, 0, 7, 0), Jars.INDEX);
        check.due("i at the end, none taken", x.yard(0, 0, 6, 0), -100);
        check.due("fault()", x.fault(), 0);
        check.due("beyond", x.yard(0, 0, 0, 7), Jars.INDEX);
        check.due("beyond", x.yard(0, 0, 6, 1), Jars.INDEX);
        check.due("wraps", x.yard(0, 0, 1, Integer.MAX_VALUE), Jars.INDEX);
        check.due("wraps", x.yard(0, 0, Integer.MAX_VALUE, Integer.MAX_VALUE), Jars.INDEX);
        check.due("wraps", x.yard(0, 0, Integer.MIN_VALUE, 6), Jars.INDEX);
        check.due("a sheet's lane", x.yard(0, 4, 0, 1), Jars.OUTSIDE);
        check.due("fault()", x.fault(), 0);
    }

    private static void yardAnew() {
        check.part("promise 2: a text makes all anew but sheets and trace; one not taken changes nothing");
        FortyJars x = Jars.of("y22;m0o;w1c2");
        x.can(4);
        x.delay(7);
        x.doze(1, true);
        x.reading(0, 0, true);
        x.tell(0);
        Jars.write(x, 0, 2, 5, 6, 7);
        Jars.write(x, 1, 0, "y22;oo;c0cx");
        check.due("not taken", x.yard(1, 0, 0, 11), -110);
        check.due("CELLS", x.many(0), 4);
        check.due("MEN", x.many(1), 3);
        check.due("OIL", x.many(2), 1);
        check.due("CAN", x.many(3), 4);
        check.due("SIGN", x.many(4), 7);
        check.due("READINGS", x.many(5), 1);
        check.due("sleeps", x.ofMan(1, 4), 1);
        check.due("kind", x.ofMan(2, 0), 2);
        check.due("inside", x.inside(0), 0);
        check.due("inside", x.inside(1), 6);
        check.due("again", Jars.take(x, "y22;m0o;w1c2"), 3);
        check.due("CAN", x.many(3), 1);
        check.due("SIGN", x.many(4), 30);
        check.due("READINGS", x.many(5), 0);
        check.due("sleeps", x.ofMan(1, 4), 0);
        check.due("trace", x.trace(), 1);
        check.due("cell", x.cell(0, 2, 2), 7);
        x.doze(0, true);
        x.can(2);
        check.due("a third one", Jars.take(x, "y12;.w0"), 1);
        check.due("sleeps", x.ofMan(0, 4), 0);
        check.due("CAN", x.many(3), 1);
        check.due("inside", x.inside(0), Jars.NONE);
        check.due("inside", x.inside(1), 0);
        check.due("inside", x.inside(2), Jars.UNKNOWN);
        check.due("OIL", x.many(2), 0);
        for (int k = 0; k < 3; k++) {
            check.due("men", Jars.take(x, "y12;w0w0"), 2);
            check.due("sleeps", x.ofMan(0, 4) + x.ofMan(1, 4), 0);
            x.doze(0, true);
            x.doze(1, true);
        }
    }

    private static void inside() {
        check.part("promise 3: inside");
        FortyJars x = Jars.of("y23;o.m1;c0ow3");
        int[] want = {6, Jars.NONE, 0, 1, 7, 2};
        for (int c = 0; c < 6; c++) check.due("inside(" + c + ")", x.inside(c), want[c]);
        check.due("inside(6)", x.inside(6), Jars.UNKNOWN);
        check.due("inside(-1)", x.inside(-1), Jars.UNKNOWN);
        check.due("inside(max)", x.inside(Integer.MAX_VALUE), Jars.UNKNOWN);
    }

    private static void ofMan() {
        check.part("promise 4: ofMan");
        FortyJars x = Jars.of("y23;m3.w3;.c3m0");
        int[][] want = {{0, 3, 0, 3, 0}, {1, 3, 2, 4, 0}, {2, 3, 4, 8, 0}, {0, 0, 5, 0, 0}};
        for (int m = 0; m < 4; m++) {
            for (int what = 0; what < 5; what++) {
                check.due("ofMan(" + m + ", " + what + ")", x.ofMan(m, what), want[m][what]);
            }
            check.due("ofMan(" + m + ", 5)", x.ofMan(m, 5), Jars.OUTSIDE);
            check.due("ofMan(" + m + ", -1)", x.ofMan(m, -1), Jars.OUTSIDE);
        }
        check.due("ofMan(4, 0)", x.ofMan(4, 0), Jars.UNKNOWN);
        check.due("ofMan(-1, 0)", x.ofMan(-1, 0), Jars.UNKNOWN);
        check.due("ofMan(4, 5)", x.ofMan(4, 5), Jars.UNKNOWN);
        x.doze(1, true);
        check.due("sleeps", x.ofMan(1, 4), 1);
        check.due("hears, awake", x.ofMan(1, 3), 4);
        check.due("another one", x.ofMan(2, 4), 0);
        x = Jars.of("y12;w0c0");
        check.due("watchful 0", x.ofMan(0, 3), 1);
        check.due("chief 0", x.ofMan(1, 3), 2);
    }

    private static void far() {
        check.part("promise 5: far");
        FortyJars x = Jars.of("y46;......;......;......;......");
        check.due("far(0, 23)", x.far(0, 23), 8);
        check.due("far(5, 6)", x.far(5, 6), 6);
        check.due("far(18, 5)", x.far(18, 5), 8);
        check.due("far(7, 14)", x.far(7, 14), 2);
        check.due("far(9, 9)", x.far(9, 9), 0);
        check.due("far(24, 0)", x.far(24, 0), Jars.UNKNOWN);
        check.due("far(0, 24)", x.far(0, 24), Jars.UNKNOWN);
        check.due("far(-1, 0)", x.far(-1, 0), Jars.UNKNOWN);
        check.due("far(0, -1)", x.far(0, -1), Jars.UNKNOWN);
        x = Jars.of("y32;..;..;..");
        check.due("far(1, 4)", x.far(1, 4), 3);
        check.due("far(4, 1)", x.far(4, 1), 3);
    }

    private static void can() {
        check.part("promise 6: can");
        FortyJars x = new FortyJars();
        check.due("can(0), no yard", x.can(0), Jars.OUTSIDE);
        check.due("can(1), no yard", x.can(1), Jars.STATE);
        check.due("many(3)", x.many(3), 0);
        Jars.take(x, "y12;m0o");
        check.due("can(6)", x.can(6), 1);
        check.due("can(7)", x.can(7), Jars.OUTSIDE);
        check.due("can(0)", x.can(0), Jars.OUTSIDE);
        check.due("can(-1)", x.can(-1), Jars.OUTSIDE);
        check.due("many(3)", x.many(3), 6);
        check.due("can(1)", x.can(1), 6);
        check.due("can(3)", x.can(3), 1);
        check.due("can(3)", x.can(3), 3);
    }

    private static void delay() {
        check.part("promise 7: delay");
        FortyJars x = new FortyJars();
        check.due("delay(100), no yard", x.delay(100), Jars.OUTSIDE);
        check.due("delay(-1), no yard", x.delay(-1), Jars.OUTSIDE);
        check.due("delay(0), no yard", x.delay(0), Jars.STATE);
        check.due("many(4)", x.many(4), 0);
        Jars.take(x, "y12;m0o");
        check.due("delay(0)", x.delay(0), 30);
        check.due("delay(99)", x.delay(99), 0);
        check.due("delay(100)", x.delay(100), Jars.OUTSIDE);
        check.due("delay(-1)", x.delay(-1), Jars.OUTSIDE);
        check.due("many(4)", x.many(4), 99);
        check.due("delay(5)", x.delay(5), 99);
    }

    private static void doze() {
        check.part("promise 8: doze");
        FortyJars x = Jars.of("y12;m0w1");
        check.due("awake, as he was", x.doze(0, false), 0);
        check.due("sleeps", x.doze(0, true), 1);
        check.due("sleeps, as he did", x.doze(0, true), 0);
        check.due("ofMan", x.ofMan(0, 4), 1);
        check.due("the other one", x.ofMan(1, 4), 0);
        check.due("the other one", x.doze(1, true), 1);
        check.due("awake", x.doze(0, false), 1);
        check.due("ofMan", x.ofMan(0, 4), 0);
        check.due("ofMan", x.ofMan(1, 4), 1);
        check.due("doze(2, true)", x.doze(2, true), Jars.UNKNOWN);
        check.due("doze(-1, true)", x.doze(-1, true), Jars.UNKNOWN);
        check.due("doze(32, false)", x.doze(32, false), Jars.UNKNOWN);
    }

    private static void ears() {
        check.part("promise 9: ears");
        FortyJars x = Jars.of("y16;m0m2w0..c0");
        int[] want = {3, 6, 6, 14, 8, 8};
        for (int c = 0; c < 6; c++) check.due("ears(" + c + ")", x.ears(c), want[c]);
        x.doze(1, true);
        check.due("ears(1), 1 sleeps", x.ears(1), 4);
        check.due("ears(0), 1 sleeps", x.ears(0), 1);
        x.doze(0, true);
        check.due("ears(0), 0 sleeps, too", x.ears(0), 0);
        check.due("ears(6)", x.ears(6), Jars.UNKNOWN);
        check.due("ears(-1)", x.ears(-1), Jars.UNKNOWN);
    }
}
