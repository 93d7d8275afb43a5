import java.util.ArrayDeque;
import java.util.ArrayList;
import java.util.HashMap;
import java.util.List;
import java.util.Map;
import java.util.regex.Matcher;
import java.util.regex.Pattern;

/** A slow program that goes by the document's words: it tries all there is to try. */
final class Model {
    private static final int UNKNOWN = -1, OUTSIDE = -2, STATE = -3, FULL = -4, NONE = -9;
    private static final long LOST = Long.MIN_VALUE;

    private class Man {
        final int number;
        final int ear;
        final int place;
        boolean sleeps;

        Man(int number, int ear, int place) {
            this.number = number;
            this.ear = ear;
            this.place = place;
        }

        int hears(int withEar) {
            return withEar;
        }

        int told() {
            trace = trace * 31 + 1;
            return ear;
        }

        final int toldAsMan() {
            trace = trace * 31 + 1;
            return ear;
        }

        int asked() {
            trace = trace * 31 + 4;
            return number;
        }
    }

    private class Watchful extends Man {
        Watchful(int number, int ear, int place) {
            super(number, ear, place);
        }

        @Override
        int hears(int withEar) {
            return super.hears(withEar) + 1;
        }

        @Override
        int told() {
            trace = trace * 31 + 2;
            return super.told() + 100;
        }
    }

    private class Chief extends Watchful {
        Chief(int number, int ear, int place) {
            super(number, ear, place);
        }

        @Override
        int hears(int withEar) {
            return 2 * super.hears(withEar);
        }

        @Override
        int told() {
            trace = trace * 31 + 3;
            int first = super.told();
            return first + toldAsMan();
        }

        @Override
        int asked() {
            trace = trace * 31 + 5;
            return 70;
        }
    }

    private record Reading(int man, int place, boolean heard) {
    }

    private final Object[] sheets = new Object[4];
    private List<String> cells = List.of();
    private int wide = 1;
    private List<Man> men = List.of();
    private List<Integer> oils = List.of();
    private final List<Reading> readings = new ArrayList<>();
    private int can = 0;
    private int sign = 0;
    private int trace = 0;
    private int fault = 0;

    // ---- sheets

    private static int length(Object row) {
        return java.lang.reflect.Array.getLength(row);
    }

    private static int at(Object row, int i) {
        return java.lang.reflect.Array.getInt(row, i);
    }

    private static int laneOf(Object row) {
        if (row instanceof byte[]) return 0;
        return row instanceof short[] ? 1 : 2;
    }

    private int fail(int number) {
        fault = number;
        return -10 - number;
    }

    /** 0, or the fault of cells from i on. */
    private int faultOfCells(Object row, int lane, int i, int n, boolean hasSize) {
        if (row != null && laneOf(row) != lane) return 2;
        if (row == null) return 1;
        if (hasSize && n < 0) return 4;
        if (i < 0 || i > length(row) || (long) i + n > length(row)) return 3;
        return 0;
    }

    private static boolean in(int v, int low, int high) {
        return low <= v && v <= high;
    }

    int sheet(int k, int lane, int n) {
        fault = 0;
        if (!in(k, 0, 3)) return UNKNOWN;
        if (!in(lane, 0, 2) || n > 60) return OUTSIDE;
        if (n < 0) return fail(4);
        sheets[k] = lane == 0 ? new byte[n] : lane == 1 ? new short[n] : new int[n];
        return 1;
    }

    int lose(int k) {
        if (!in(k, 0, 3)) return UNKNOWN;
        int had = sheets[k] == null ? 0 : 1;
        sheets[k] = null;
        return had;
    }

    int put(int k, int i, int v) {
        fault = 0;
        if (!in(k, 0, 3)) return UNKNOWN;
        Object row = sheets[k];
        if (row == null) return fail(1);
        if (!in(i, 0, length(row) - 1)) return fail(3);
        if (row instanceof byte[] bytes) bytes[i] = (byte) v;
        if (row instanceof short[] shorts) shorts[i] = (short) v;
        if (row instanceof int[] ints) ints[i] = v;
        return 1;
    }

    long cell(int k, int i, int lane) {
        fault = 0;
        if (!in(k, 0, 3) || !in(lane, 0, 2)) return LOST;
        fault = faultOfCells(sheets[k], lane, i, 1, false);
        return fault == 0 ? at(sheets[k], i) : LOST;
    }

    int copy(int k, int i, int other, int j, int n) {
        fault = 0;
        if (!in(k, 0, 3) || !in(other, 0, 3)) return UNKNOWN;
        if (sheets[k] == null || sheets[other] == null) return fail(1);
        if (sheets[k].getClass() != sheets[other].getClass()) return fail(2);
        try {
            System.arraycopy(sheets[k], i, sheets[other], j, n);
        } catch (IndexOutOfBoundsException beyond) {
            return fail(3);
        }
        return n;
    }

    // ---- the yard

    private static boolean goesOn(String start) {
        if (start.chars().filter(c -> c == 'o').count() > 2) return false;
        if (start.chars().filter(c -> "mwc".indexOf(c) >= 0).count() > 6) return false;
        for (int high = 1; high <= 4; high++) {
            for (int across = 2; across <= 6; across++) {
                if (whole(high, across, start) || canGoOn(high, across, start)) return true;
            }
        }
        return false;
    }

    private static Matcher matcher(int high, int across, String start) {
        String cell = "(\\.|o|[mwc][0-5])";
        return Pattern.compile("y" + high + across + "(;" + cell + "{" + across + "}){" + high + "}").matcher(start);
    }

    private static boolean whole(int high, int across, String start) {
        return matcher(high, across, start).matches();
    }

    private static boolean canGoOn(int high, int across, String start) {
        Matcher m = matcher(high, across, start);
        return !m.matches() && m.hitEnd();
    }

    private static boolean isWhole(String text) {
        for (int high = 1; high <= 4; high++) {
            for (int across = 2; across <= 6; across++) {
                if (whole(high, across, text)) return true;
            }
        }
        return false;
    }

    int yard(int sheet, int lane, int i, int n) {
        fault = 0;
        if (!in(sheet, 0, 3)) return UNKNOWN;
        if (!in(lane, 0, 2)) return OUTSIDE;
        int found = faultOfCells(sheets[sheet], lane, i, n, true);
        if (found != 0) return fail(found);
        StringBuilder text = new StringBuilder();
        for (int at = i; at < i + n; at++) {
            int code = at(sheets[sheet], at);
            text.append(in(code, 1, 127) ? (char) code : '#');
        }
        for (int end = 0; end < n; end++) {
            if (!goesOn(text.substring(0, end + 1))) return -100 - end;
        }
        if (!isWhole(text.toString())) return -100 - n;
        build(text.toString());
        return men.size();
    }

    private void build(String text) {
        wide = text.charAt(2) - '0';
        cells = new ArrayList<>();
        men = new ArrayList<>();
        oils = new ArrayList<>();
        readings.clear();
        can = 1;
        sign = 30;
        Matcher m = Pattern.compile("\\.|o|[mwc][0-5]").matcher(text.substring(3));
        while (m.find()) {
            String what = m.group();
            if (what.equals("o")) oils.add(cells.size());
            if (what.length() == 2) men.add(man(what.charAt(0), men.size(), what.charAt(1) - '0', cells.size()));
            cells.add(what);
        }
    }

    private Man man(int kind, int number, int ear, int place) {
        switch (kind) {
            case 'm': case 0: return new Man(number, ear, place);
            case 'w': case 1: return new Watchful(number, ear, place);
            default: return new Chief(number, ear, place);
        }
    }

    private boolean isMan(int m) {
        return in(m, 0, men.size() - 1);
    }

    private boolean isCell(int c) {
        return in(c, 0, cells.size() - 1);
    }

    private boolean stands() {
        return !cells.isEmpty();
    }

    int inside(int c) {
        if (!isCell(c)) return UNKNOWN;
        for (Man man : men) if (man.place == c) return man.number;
        return oils.contains(c) ? 6 + oils.indexOf(c) : NONE;
    }

    private static int kindOf(Man man) {
        return man instanceof Chief ? 2 : man instanceof Watchful ? 1 : 0;
    }

    int ofMan(int m, int what) {
        if (!isMan(m)) return UNKNOWN;
        if (!in(what, 0, 4)) return OUTSIDE;
        Man man = men.get(m);
        return new int[] {kindOf(man), man.ear, man.place, man.hears(man.ear), man.sleeps ? 1 : 0}[what];
    }

    private int apart(int c, int other) {
        return Math.abs(c / wide - other / wide) + Math.abs(c % wide - other % wide);
    }

    int far(int c, int other) {
        return isCell(c) && isCell(other) ? apart(c, other) : UNKNOWN;
    }

    int can(int v) {
        if (!in(v, 1, 6)) return OUTSIDE;
        if (!stands()) return STATE;
        int held = can;
        can = v;
        return held;
    }

    int delay(int v) {
        if (!in(v, 0, 99)) return OUTSIDE;
        if (!stands()) return STATE;
        int was = sign;
        sign = v;
        return was;
    }

    int doze(int m, boolean is) {
        if (!isMan(m)) return UNKNOWN;
        boolean was = men.get(m).sleeps;
        men.get(m).sleeps = is;
        return was == is ? 0 : 1;
    }

    int ears(int c) {
        if (!isCell(c)) return UNKNOWN;
        int set = 0;
        for (Man man : men) if (!man.sleeps && apart(c, man.place) <= man.hears(man.ear)) set += 1 << man.number;
        return set;
    }

    // ---- plans

    /** Whether a pour on a man is heard, as those of a set stand. */
    private boolean isHeard(int m, int standing, int sleepers) {
        for (Man man : men) {
            boolean counts = man.number != m && (standing >> man.number & 1) == 1 && (sleepers >> man.number & 1) == 0;
            if (counts && apart(men.get(m).place, man.place) <= man.hears(man.ear)) return true;
        }
        return false;
    }

    private int sleepers() {
        int set = 0;
        for (Man man : men) if (man.sleeps) set += 1 << man.number;
        return set;
    }

    private int all() {
        return (1 << men.size()) - 1;
    }

    /** Minutes, first wrong, dealt, heard, left, at. */
    private int[] carryOut(int[] steps, int sleepers) {
        int[] now = {0, NONE, 0, NONE, 0, 0};
        for (int place = 0; place < steps.length; place++) {
            int step = steps[place];
            if (step < 6 && ((now[2] >> step & 1) == 1 || now[4] == 0)) {
                now[1] = place;
                return now;
            }
            int to = step < 6 ? men.get(step).place : oils.get(step - 6);
            now[0] += apart(now[5], to) + 1;
            now[5] = to;
            if (step >= 6) {
                now[4] = can;
                continue;
            }
            if (now[3] == NONE && isHeard(step, all() & ~now[2], sleepers)) now[3] = place;
            now[4]--;
            now[2] |= 1 << step;
        }
        return now;
    }

    /** The steps, or what is refused in the first of one number that is below 0. */
    private int[] steps(int sheet, int lane, int i, int n, boolean known) {
        fault = 0;
        if (!in(sheet, 0, 3)) return new int[] {UNKNOWN};
        if (!in(lane, 0, 2) || !in(n, 0, 20) || !known) return new int[] {OUTSIDE};
        if (!stands()) return new int[] {STATE};
        int found = faultOfCells(sheets[sheet], lane, i, n, false);
        if (found != 0) return new int[] {fail(found)};
        int[] steps = new int[n];
        for (int at = 0; at < n; at++) {
            steps[at] = at(sheets[sheet], i + at);
            if (!isMan(steps[at]) && !in(steps[at], 6, 5 + oils.size())) return new int[] {UNKNOWN};
        }
        return steps;
    }

    private static boolean isRefused(int[] steps) {
        return steps.length > 0 && steps[0] < 0;
    }

    int plan(int sheet, int lane, int i, int n, int what) {
        int[] steps = steps(sheet, lane, i, n, in(what, 0, 5));
        if (isRefused(steps)) return steps[0];
        int[] end = carryOut(steps, sleepers());
        return what == 1 || end[1] == NONE ? end[what] : -100 - end[1];
    }

    long odds(int sheet, int lane, int i, int n, int which) {
        int[] steps = steps(sheet, lane, i, n, in(which, 0, 1));
        if (isRefused(steps) || carryOut(steps, 0)[1] != NONE) return LOST;
        long upper = 0;
        for (int set = 0; set <= all(); set++) if (carryOut(steps, set)[3] == NONE) upper++;
        long lower = all() + 1;
        for (long d = lower; d > 1; d--) {
            if (upper % d == 0 && lower % d == 0) {
                upper /= d;
                lower /= d;
            }
        }
        return which == 0 ? upper : lower;
    }

    // ---- quiet orders, the soonest

    private boolean findOrder(List<Integer> row) {
        if (row.size() == men.size()) return true;
        int standing = all();
        for (int m : row) standing -= 1 << m;
        for (int m = 0; m < men.size(); m++) {
            if ((standing >> m & 1) == 0 || isHeard(m, standing, sleepers())) continue;
            row.add(m);
            if (findOrder(row)) return true;
            row.remove(row.size() - 1);
        }
        return false;
    }

    int quiet(int k) {
        if (k < 0) return UNKNOWN;
        if (!stands()) return STATE;
        List<Integer> row = new ArrayList<>();
        return findOrder(row) && k < row.size() ? row.get(k) : NONE;
    }

    int stuck() {
        if (!stands()) return STATE;
        int left = all();
        boolean more = true;
        while (more) {
            more = false;
            for (int m = men.size() - 1; m >= 0; m--) {
                if ((left >> m & 1) == 1 && !isHeard(m, left, sleepers())) {
                    left -= 1 << m;
                    more = true;
                }
            }
        }
        return left;
    }

    /** The least minutes for each set of men dealt with; each step of each plan is tried, minute by minute. */
    private Map<Integer, Integer> minutes(int absent) {
        Map<Integer, Integer> found = new HashMap<>();
        List<ArrayDeque<int[]>> byMinute = new ArrayList<>();
        for (int minute = 0; minute < 250; minute++) byMinute.add(new ArrayDeque<>());
        byMinute.get(0).add(new int[] {0, 0, 0});
        Map<Integer, Boolean> seen = new HashMap<>();
        for (int minute = 0; minute < 200; minute++) {
            for (int[] now : byMinute.get(minute)) {
                if (seen.put((now[0] * 7 + now[1]) * 64 + now[2], true) != null) continue;
                found.putIfAbsent(now[0], minute);
                for (int oil : oils) {
                    byMinute.get(minute + apart(now[2], oil) + 1).add(new int[] {now[0], can, oil});
                }
                for (Man man : men) {
                    int bit = 1 << man.number;
                    boolean can = now[1] > 0 && ((now[0] | absent) & bit) == 0;
                    if (!can || isHeard(man.number, all() & ~now[0] & ~absent, sleepers())) continue;
                    byMinute.get(minute + apart(now[2], man.place) + 1).add(new int[] {now[0] | bit, now[1] - 1, man.place});
                }
            }
        }
        return found;
    }

    int soonest() {
        return stands() ? minutes(0).getOrDefault(all(), NONE) : STATE;
    }

    int without(int m) {
        return isMan(m) ? minutes(1 << m).getOrDefault(all() & ~(1 << m), NONE) : UNKNOWN;
    }

    int most() {
        if (!stands()) return STATE;
        Map<Integer, Integer> minutes = minutes(0);
        int best = 0;
        for (int set = all(); set >= 0; set--) {
            if (minutes.getOrDefault(set, 1000) > sign) continue;
            if (Integer.bitCount(set) >= Integer.bitCount(best)) best = set;
        }
        return best;
    }

    // ---- what was heard

    int reading(int m, int c, boolean heard) {
        if (!isMan(m) || !isCell(c)) return UNKNOWN;
        if (readings.size() == 8) return FULL;
        readings.add(new Reading(m, c, heard));
        return readings.size() - 1;
    }

    int back(int k) {
        if (!in(k, 0, readings.size())) return OUTSIDE;
        for (int one = 0; one < k; one++) readings.remove(readings.size() - 1);
        return readings.size();
    }

    private boolean allSo(List<Man> those) {
        for (Reading reading : readings) {
            Man man = those.get(reading.man);
            if (apart(man.place, reading.place) <= man.hears(man.ear) != reading.heard) return false;
        }
        return true;
    }

    private int setOf(int m, int from, boolean kinds) {
        int set = 0;
        for (int value = 0; value <= from; value++) {
            Man old = men.get(m);
            List<Man> those = new ArrayList<>(men);
            those.set(m, kinds ? man(value, m, old.ear, old.place) : man(kindOf(old), m, value, old.place));
            if (allSo(those)) set += 1 << value;
        }
        return set;
    }

    int holds() {
        if (!stands()) return STATE;
        return allSo(men) ? 1 : 0;
    }

    int hearing(int m) {
        return isMan(m) ? setOf(m, 5, false) : UNKNOWN;
    }

    int kinds(int m) {
        return isMan(m) ? setOf(m, 2, true) : UNKNOWN;
    }

    // ---- parts

    int tell(int m) {
        return isMan(m) ? men.get(m).told() : UNKNOWN;
    }

    int ask(int m) {
        return isMan(m) ? men.get(m).asked() : UNKNOWN;
    }

    int as(int m, int kind) {
        fault = 0;
        if (!isMan(m)) return UNKNOWN;
        if (!in(kind, 0, 2)) return OUTSIDE;
        Man man = men.get(m);
        boolean is = kind == 0 || kind == 1 && man instanceof Watchful || kind == 2 && man instanceof Chief;
        return is ? 1 : fail(2);
    }

    int trace() {
        return trace;
    }

    int fault() {
        return fault;
    }

    int many(int what) {
        if (!in(what, 0, 5)) return OUTSIDE;
        return new int[] {cells.size(), men.size(), oils.size(), can, sign, readings.size()}[what];
    }
}
