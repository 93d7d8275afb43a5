/** Long runs of calls, each answer held against the model's. */
public final class ModelTest {
    private static final int CALLS = 512;
    private static final int[] ODD = {Integer.MIN_VALUE, -70000, -129, -2, -1, 61, 64, 1000, 70001, Integer.MAX_VALUE};
    private static final Check check = new Check();

    private final FortyJars x = new FortyJars();
    private final Model y = new Model();
    private final StringBuilder latest = new StringBuilder();
    private long seed;
    private int calls = 0;

    private ModelTest(int run) {
        seed = run * 7919L + 17;
    }

    public static void main(String[] args) {
        int runs = args.length > 0 ? Integer.parseInt(args[0]) : 120;
        check.part("runs of " + CALLS + " calls against the model");
        for (int run = 0; run < runs; run++) new ModelTest(run).go(run);
        check.end();
    }

    /** The same numbers at each run: the test tells the same each time. */
    private int below(int bound) {
        seed = seed * 6364136223846793005L + 1442695040888963407L;
        return (int) ((seed >>> 33) % bound);
    }

    private boolean oneIn(int n) {
        return below(n) == 0;
    }

    /** Mostly 0 .. bound - 1, at times just beyond it or far off. */
    private int near(int bound) {
        if (oneIn(12)) return below(bound + 3) - 1;
        if (oneIn(40)) return ODD[below(ODD.length)];
        return below(Math.max(bound, 1));
    }

    private void due(String call, long got, long want, int... arguments) {
        calls++;
        latest.append(' ').append(call).append(java.util.Arrays.toString(arguments)).append('=').append(want);
        if (got != want) System.out.println("  calls so far:" + latest);
        check.due(call + java.util.Arrays.toString(arguments), got, want);
    }

    private void go(int run) {
        if (!oneIn(10)) newYard();
        while (calls < CALLS - 70) {
            int kind = below(100);
            if (kind < 4) newYard();
            else if (kind < 9) newPlan();
            else if (kind < 30) planCall();
            else if (kind < 60) oneOf(below(25));
            else oneOf(7 + below(12));
            if (oneIn(3)) due("fault", x.fault(), y.fault());
        }
    }

    private void sheet(int k, int lane, int n) {
        due("sheet", x.sheet(k, lane, n), y.sheet(k, lane, n), k, lane, n);
    }

    private void put(int k, int i, int v) {
        due("put", x.put(k, i, v), y.put(k, i, v), k, i, v);
    }

    private void yard(int k, int lane, int i, int n) {
        due("yard", x.yard(k, lane, i, n), y.yard(k, lane, i, n), k, lane, i, n);
    }

    private void newYard() {
        String text = text();
        int lane = below(3);
        int from = oneIn(4) ? below(5) : 0;
        sheet(0, lane, from + text.length());
        for (int i = 0; i < text.length(); i++) put(0, from + i, text.charAt(i));
        yard(0, lane, from, text.length());
    }

    private String text() {
        int high = 1 + below(4);
        int wide = 2 + below(5);
        int rate = 2 + below(4);
        int ear = 1 + below(6);
        int[] left = {6 + (oneIn(20) ? 1 : 0), 2 + (oneIn(20) ? 1 : 0)};
        StringBuilder text = new StringBuilder().append('y').append(high).append(wide);
        for (int row = 0; row < high; row++) {
            text.append(';');
            for (int across = 0; across < wide; across++) {
                int what = below(rate + 2);
                if (what == 0 && left[1]-- > 0) text.append('o');
                else if (what == 1 && left[0]-- > 0) text.append("mmmwwc".charAt(below(6))).append(below(ear));
                else text.append('.');
            }
        }
        if (oneIn(8)) text.setCharAt(below(text.length()), "y;.omwc0123456789".charAt(below(17)));
        if (oneIn(20)) text.setLength(below(text.length()));
        if (oneIn(20)) text.append('.');
        return text.toString();
    }

    /** Mostly a plan that can be, as far as it goes. */
    private void newPlan() {
        int n = 6 + below(15);
        int men = y.many(1);
        int oils = y.many(2);
        sheet(1, 1, n);
        int left = 0;
        for (int i = 0; i < n; i++) {
            boolean fill = oils > 0 && (left == 0 && !oneIn(20) || oneIn(8));
            int step = fill ? 6 + below(oils) : men > 0 ? (i + below(2)) % men : below(9);
            left = fill ? y.many(3) : Math.max(0, left - 1);
            put(1, i, step);
        }
    }

    private void planCall() {
        boolean plain = !oneIn(6);
        int k = plain ? 1 : near(4);
        int lane = plain ? 1 : near(3);
        int i = oneIn(3) ? near(8) : 0;
        int n = oneIn(5) ? near(21) : below(8);
        if (oneIn(3)) {
            int which = near(2);
            due("odds", x.odds(k, lane, i, n, which), y.odds(k, lane, i, n, which), k, lane, i, n, which);
        } else {
            int what = near(6);
            due("plan", x.plan(k, lane, i, n, what), y.plan(k, lane, i, n, what), k, lane, i, n, what);
        }
    }

    private void oneOf(int call) {
        int m = near(y.many(1));
        int c = near(y.many(0));
        boolean is = oneIn(2);
        switch (call) {
            case 0: sheet(near(4), near(3), near(61)); break;
            case 1: { int k = near(4); due("lose", x.lose(k), y.lose(k), k); break; }
            case 2: put(near(4), near(20), near(300)); break;
            case 3: { int k = near(4), i = near(20), lane = near(3); due("cell", x.cell(k, i, lane), y.cell(k, i, lane), k, i, lane); break; }
            case 4: case 5: copy(); break;
            case 6: yard(near(4), near(3), near(5), near(20)); break;
            case 7: { int v = near(7); due("can", x.can(v), y.can(v), v); break; }
            case 8: { int v = near(oneIn(2) ? 100 : 20); due("delay", x.delay(v), y.delay(v), v); break; }
            case 9: due("doze", x.doze(m, is), y.doze(m, is), m, is ? 1 : 0); break;
            case 10: due("soonest", x.soonest(), y.soonest()); break;
            case 11: due("most", x.most(), y.most()); break;
            case 12: due("without", x.without(m), y.without(m), m); break;
            case 13: due("quiet", x.quiet(m), y.quiet(m), m); break;
            case 14: due("stuck", x.stuck(), y.stuck()); break;
            case 15: read(m, c); break;
            case 16: { int k = oneIn(3) ? near(y.many(5) + 1) : 0; due("back", x.back(k), y.back(k), k); break; }
            case 17: due("hearing", x.hearing(m), y.hearing(m), m); break;
            case 18: due("kinds", x.kinds(m), y.kinds(m), m); due("holds", x.holds(), y.holds()); break;
            case 19: due("inside", x.inside(c), y.inside(c), c); due("ears", x.ears(c), y.ears(c), c); break;
            case 20: { int o = near(y.many(0)); due("far", x.far(c, o), y.far(c, o), c, o); break; }
            case 21: { int what = near(5); due("ofMan", x.ofMan(m, what), y.ofMan(m, what), m, what); break; }
            case 22: { int kind = near(3); due("as", x.as(m, kind), y.as(m, kind), m, kind); break; }
            case 23: due("tell", x.tell(m), y.tell(m), m); due("ask", x.ask(m), y.ask(m), m); due("trace", x.trace(), y.trace()); break;
            default: { int what = near(6); due("many", x.many(what), y.many(what), what); break; }
        }
    }

    /** Mostly what is so of the man, or of another ear or kind: else the sets would be empty. */
    private void read(int m, int c) {
        int reach = y.ofMan(m, 3) + (oneIn(6) ? below(3) - 1 : 0);
        int place = y.ofMan(m, 2);
        boolean heard = place >= 0 && y.far(c, place) <= reach;
        due("reading", x.reading(m, c, heard), y.reading(m, c, heard), m, c, heard ? 1 : 0);
    }

    private void copy() {
        int k = near(4), i = near(10), other = oneIn(2) ? k : near(4), j = near(10), n = near(10);
        due("copy", x.copy(k, i, other, j, n), y.copy(k, i, other, j, n), k, i, other, j, n);
    }
}
