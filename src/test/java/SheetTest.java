/** Promises 22 to 26: sheets. */
public final class SheetTest {
    private static final Check check = new Check();

    public static void main(String[] args) {
        sheet();
        lose();
        put();
        cell();
        copy();
        check.end();
    }

    private static void sheet() {
        check.part("promise 22: sheet");
        FortyJars x = new FortyJars();
        for (int k = 0; k < 4; k++) {
            for (int lane = 0; lane < 3; lane++) {
                check.due("sheet", x.sheet(k, lane, 60), 1);
                check.due("0 at first", x.cell(k, 59, lane), 0);
                x.put(k, 59, 1);
                x.put(k, 0, 1);
                check.due("a new row", x.sheet(k, lane, 60), 1);
                check.due("0 at first", x.cell(k, 0, lane), 0);
                check.due("0 at first", x.cell(k, 59, lane), 0);
            }
        }
        check.due("one of no cells", x.sheet(0, 1, 0), 1);
        check.due("it has none", x.put(0, 0, 1), Jars.INDEX);
        check.due("sheet ahead of lane", x.sheet(4, 3, 61), Jars.UNKNOWN);
        check.due("fault()", x.fault(), 0);
        check.due("sheet", x.sheet(-1, 0, 1), Jars.UNKNOWN);
        check.due("lane ahead of size", x.sheet(0, 3, -1), Jars.OUTSIDE);
        check.due("lane", x.sheet(0, -1, -1), Jars.OUTSIDE);
        check.due("n", x.sheet(0, 0, 61), Jars.OUTSIDE);
        check.due("n", x.sheet(0, 0, Integer.MAX_VALUE), Jars.OUTSIDE);
        check.due("fault()", x.fault(), 0);
        check.due("size", x.sheet(0, 0, -1), Jars.SIZE);
        check.due("fault()", x.fault(), 4);
        check.due("size", x.sheet(0, 0, Integer.MIN_VALUE), Jars.SIZE);
        check.due("the old row stays", x.cell(0, 0, 1), Jars.LOST);
        check.due("fault()", x.fault(), 3);
        check.due("sheet", x.sheet(0, 0, 5), 1);
        check.due("fault()", x.fault(), 0);
        check.due("no longer than told", x.put(0, 5, 1), Jars.INDEX);
    }

    private static void lose() {
        check.part("promise 23: lose");
        FortyJars x = new FortyJars();
        check.due("nothing", x.lose(0), 0);
        x.sheet(0, 0, 0);
        x.sheet(1, 0, 1);
        check.due("a row of no cells", x.lose(0), 1);
        check.due("nothing any more", x.lose(0), 0);
        check.due("nothing", x.put(0, 0, 0), Jars.NULL);
        check.due("lose leaves fault()", x.lose(0), 0);
        check.due("fault()", x.fault(), 1);
        check.due("the other one stays", x.put(1, 0, 7), 1);
        check.due("sheet", x.lose(4), Jars.UNKNOWN);
        check.due("sheet", x.lose(-1), Jars.UNKNOWN);
        check.due("the other one", x.cell(1, 0, 0), 7);
        check.due("the other one", x.lose(1), 1);
        x.sheet(1, 0, 1);
        check.due("0 at first", x.cell(1, 0, 0), 0);
    }

    private static void put() {
        check.part("promise 24: put");
        int[] numbers = {0, 1, -1, 127, 128, 255, 256, -129, 32767, 32768, -32769, 70001, Integer.MIN_VALUE};
        FortyJars x = new FortyJars();
        for (int number : numbers) {
            Jars.write(x, 0, 0, number);
            check.due("bytes of " + number, x.cell(0, 0, 0), (byte) number);
            Jars.write(x, 0, 1, number);
            check.due("shorts of " + number, x.cell(0, 0, 1), (short) number);
            Jars.write(x, 0, 2, number);
            check.due("ints of " + number, x.cell(0, 0, 2), number);
        }
        x.lose(0);
        check.due("sheet", x.put(4, 0, 0), Jars.UNKNOWN);
        check.due("sheet", x.put(-1, -1, 0), Jars.UNKNOWN);
        check.due("nothing", x.put(0, -1, 0), Jars.NULL);
        check.due("fault()", x.fault(), 1);
        x.sheet(0, 0, 3);
        check.due("put", x.put(0, 2, 5), 1);
        check.due("fault()", x.fault(), 0);
        check.due("i", x.put(0, 3, 5), Jars.INDEX);
        check.due("fault()", x.fault(), 3);
        check.due("i", x.put(0, -1, 5), Jars.INDEX);
        check.due("i", x.put(0, Integer.MIN_VALUE, 5), Jars.INDEX);
        check.due("sheet", x.put(4, 0, 0), Jars.UNKNOWN);
        check.due("fault()", x.fault(), 0);
        check.due("its cell alone", x.cell(0, 1, 0), 0);
        check.due("its sheet alone", x.put(1, 2, 0), Jars.NULL);
    }

    private static void lost(FortyJars x, int k, int i, int lane, int fault) {
        check.due("cell(" + k + ", " + i + ", " + lane + ")", x.cell(k, i, lane), Jars.LOST);
        check.due("fault()", x.fault(), fault);
    }

    private static void cell() {
        check.part("promise 25: cell");
        FortyJars x = new FortyJars();
        Jars.write(x, 0, 1, 5, -6);
        check.due("cell", x.cell(0, 0, 1), 5);
        check.due("cell", x.cell(0, 1, 1), -6);
        lost(x, 0, 2, 1, 3);
        lost(x, 4, 2, 0, 0);
        lost(x, 0, 2, 0, 2);
        lost(x, -1, 2, 0, 0);
        lost(x, 0, -1, 2, 2);
        lost(x, 0, 0, 3, 0);
        lost(x, 1, -1, 0, 1);
        lost(x, 1, -1, -1, 0);
        lost(x, 0, -1, 1, 3);
        lost(x, 0, Integer.MAX_VALUE, 1, 3);
        check.due("cell", x.cell(0, 0, 1), 5);
        check.due("fault()", x.fault(), 0);
    }

    private static void row(FortyJars x, int k, int lane, int... want) {
        for (int i = 0; i < want.length; i++) check.due("cell " + i, x.cell(k, i, lane), want[i]);
        check.due("behind the last", x.cell(k, want.length, lane), Jars.LOST);
    }

    private static void copy() {
        check.part("promise 26: copy");
        for (int lane = 0; lane < 3; lane++) {
            FortyJars x = new FortyJars();
            Jars.write(x, 0, lane, 1, 2, 3, 4, 5);
            Jars.write(x, 1, lane, 6, 7, 8);
            check.due("to another one", x.copy(0, 1, 1, 0, 2), 2);
            row(x, 1, lane, 2, 3, 8);
            row(x, 0, lane, 1, 2, 3, 4, 5);
            check.due("up in itself", x.copy(0, 0, 0, 1, 4), 4);
            row(x, 0, lane, 1, 1, 2, 3, 4);
            check.due("down in itself", x.copy(0, 1, 0, 0, 4), 4);
            row(x, 0, lane, 1, 2, 3, 4, 4);
            check.due("none, at the ends", x.copy(0, 5, 1, 3, 0), 0);
            check.due("all", x.copy(1, 0, 0, 2, 3), 3);
            row(x, 0, lane, 1, 2, 2, 3, 8);
        }
        FortyJars x = new FortyJars();
        Jars.write(x, 0, 0, 1, 2, 3);
        Jars.write(x, 1, 1, 1, 2, 3);
        Jars.write(x, 2, 0, 1, 2);
        check.due("sheet", x.copy(4, -1, 3, -1, -1), Jars.UNKNOWN);
        check.due("fault()", x.fault(), 0);
        check.due("sheet", x.copy(3, -1, 4, -1, -1), Jars.UNKNOWN);
        check.due("sheet", x.copy(-1, 0, 0, 0, 0), Jars.UNKNOWN);
        check.due("sheet", x.copy(0, 0, -1, 0, 0), Jars.UNKNOWN);
        check.due("the first has nothing", x.copy(3, -1, 0, -1, -1), Jars.NULL);
        check.due("fault()", x.fault(), 1);
        check.due("the other has nothing", x.copy(0, -1, 3, -1, -1), Jars.NULL);
        check.due("unlike lanes", x.copy(0, -1, 1, -1, -1), Jars.CAST);
        check.due("fault()", x.fault(), 2);
        check.due("i", x.copy(0, -1, 2, 0, 0), Jars.INDEX);
        check.due("fault()", x.fault(), 3);
        check.due("j", x.copy(0, 0, 2, -1, 0), Jars.INDEX);
        check.due("n", x.copy(0, 0, 2, 0, -1), Jars.INDEX);
        check.due("i beyond", x.copy(0, 4, 2, 0, 0), Jars.INDEX);
        check.due("j beyond", x.copy(0, 0, 2, 3, 0), Jars.INDEX);
        check.due("i and n beyond", x.copy(0, 2, 2, 0, 2), Jars.INDEX);
        check.due("j and n beyond", x.copy(0, 0, 2, 1, 2), Jars.INDEX);
        check.due("wraps", x.copy(0, 1, 2, 1, Integer.MAX_VALUE), Jars.INDEX);
        check.due("wraps", x.copy(0, Integer.MAX_VALUE, 2, 1, Integer.MAX_VALUE), Jars.INDEX);
        row(x, 2, 0, 1, 2);
        check.due("copy", x.copy(0, 1, 2, 0, 2), 2);
        check.due("fault()", x.fault(), 0);
        row(x, 2, 0, 2, 3);
    }
}
