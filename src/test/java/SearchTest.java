/** Wide yards of many men, whose ears leave few orders: the soonest, the most, without one, held against the model. */
public final class SearchTest {
    private static final Check check = new Check();
    private static final int HIGH = 4, WIDE = 6, CELLS = HIGH * WIDE;

    private final String[] cells = new String[CELLS];
    private long seed;

    private SearchTest(int run) {
        seed = run * 104729L + 5;
    }

    public static void main(String[] args) {
        int yards = args.length > 0 ? Integer.parseInt(args[0]) : 600;
        check.part("promises 13 to 15 in wide yards of many men, against the model");
        for (int run = 0; run < yards; run++) new SearchTest(run).go();
        check.end();
    }

    /** The same numbers at each run: the test tells the same each time. */
    private int below(int bound) {
        seed = seed * 6364136223846793005L + 1442695040888963407L;
        return (int) ((seed >>> 33) % bound);
    }

    private void go() {
        FortyJars x = new FortyJars();
        Model y = new Model();
        String text = orderedText(x, y);
        int can = 1 + below(6);
        x.can(can);
        y.can(can);
        if (below(2) == 0) sleeps(x, y, below(y.many(1)));
        String where = " of " + text + " by a can of " + can;
        int soonest = y.soonest();
        check.due("soonest" + where, x.soonest(), soonest);
        for (int m = 0; m < y.many(1); m++) check.due("without " + m + where, x.without(m), y.without(m));
        for (int sign : new int[] {soonest, soonest - 1, soonest / 2, 10 + below(40)}) {
            x.delay(sign);
            y.delay(sign);
            check.due("most by " + sign + where, x.most(), y.most());
        }
    }

    private static void sleeps(FortyJars x, Model y, int m) {
        x.doze(m, true);
        y.doze(m, true);
    }

    /** The first of some texts by which all can be dealt with unheard, or else the last: most texts leave no order. */
    private String orderedText(FortyJars x, Model y) {
        String text = "";
        for (int turn = 0; turn < 12; turn++) {
            text = text();
            take(x, text);
            Jars.take(y, text);
            if (y.stuck() == 0) return text;
        }
        return text;
    }

    private static void take(FortyJars x, String text) {
        check.due(text + " is taken", Jars.take(x, text) >= 0);
    }

    private String text() {
        java.util.Arrays.fill(cells, ".");
        int oils = 1 + below(2);
        int men = 4 + below(3);
        int ears = 1 + below(6);
        for (int k = 0; k < oils; k++) cells[bare()] = "o";
        for (int k = 0; k < men; k++) cells[bare()] = "mmwc".charAt(below(4)) + "" + below(ears);
        StringBuilder text = new StringBuilder("y" + HIGH + WIDE);
        for (int c = 0; c < CELLS; c++) text.append(c % WIDE == 0 ? ";" : "").append(cells[c]);
        return text.toString();
    }

    private int bare() {
        int c = below(CELLS);
        while (!cells[c].equals(".")) c = (c + 1) % CELLS;
        return c;
    }
}
