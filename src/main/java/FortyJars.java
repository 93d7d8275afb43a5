/** Forty jars in a yard: oil, men who wait for a sign, and a servant who pours. See ../shared/DOC.md. */
public final class FortyJars {
    public static final int UNKNOWN = -1, OUTSIDE = -2, STATE = -3, FULL = -4, NONE = -9;
    public static final long LOST = Long.MIN_VALUE;

    private static final int NULL_FAULT = 1, CAST_FAULT = 2, INDEX_FAULT = 3, SIZE_FAULT = 4;
    private static final int MAN = 0, WATCHFUL = 1, CHIEF = 2;
    private static final int MOST_STEPS = 20, LATEST_SIGN = 99;

    private final Sheets sheets = new Sheets();
    private final Readings readings = new Readings();
    private final Walk walk = new Walk();
    private final Order order = new Order();
    private final Search search = new Search();
    private final int[] taken = new int[Sheets.LONGEST];
    private Yard yard = new Yard();
    private Yard spare = new Yard();
    private int traced;
    private int lastFault;

    public FortyJars() {
    }

    // ---- 1 the yard

    public int yard(int sheet, int lane, int i, int n) {
        lastFault = 0;
        if (!Sheets.isSheet(sheet)) return UNKNOWN;
        if (!Sheets.isLane(lane)) return OUTSIDE;
        int fault = sheets.faultOfRow(sheet, lane);
        if (fault != 0) return faulty(fault);
        if (n < 0) return faulty(SIZE_FAULT);
        if (!sheets.hasCells(sheet, i, n)) return faulty(INDEX_FAULT);
        sheets.lift(sheet, i, n, taken);
        return takeText(n);
    }

    /** The text is read into the spare yard, so that one that is not taken leaves the old yard as it is. */
    private int takeText(int n) {
        int firstFault = spare.readText(taken, n);
        if (firstFault != NONE) return -100 - firstFault;
        Yard old = yard;
        yard = spare;
        spare = old;
        readings.count = 0;
        return yard.men;
    }

    public int inside(int c) {
        if (!yard.isCell(c)) return UNKNOWN;
        return yard.inCell[c];
    }

    public int ofMan(int m, int what) {
        if (!yard.isMan(m)) return UNKNOWN;
        switch (what) {
            case 0: return yard.kind[m];
            case 1: return yard.ear[m];
            case 2: return yard.manCell[m];
            case 3: return Yard.reach(yard.kind[m], yard.ear[m]);
            case 4: return yard.sleeps(m) ? 1 : 0;
            default: return OUTSIDE;
        }
    }

    public int far(int c, int other) {
        if (!yard.isCell(c) || !yard.isCell(other)) return UNKNOWN;
        return yard.apart(c, other);
    }

    public int can(int v) {
        if (v < 1 || v > Yard.LARGEST_CAN) return OUTSIDE;
        if (!yard.stands()) return STATE;
        int held = yard.canHolds;
        yard.canHolds = v;
        return held;
    }

    public int delay(int v) {
        if (v < 0 || v > LATEST_SIGN) return OUTSIDE;
        if (!yard.stands()) return STATE;
        int minute = yard.sign;
        yard.sign = v;
        return minute;
    }

    public int doze(int m, boolean is) {
        if (!yard.isMan(m)) return UNKNOWN;
        if (yard.sleeps(m) == is) return 0;
        yard.asleep ^= 1 << m;
        return 1;
    }

    public int ears(int c) {
        if (!yard.isCell(c)) return UNKNOWN;
        return yard.hearersAt(c) & ~yard.asleep;
    }

    // ---- 2 plans

    public int plan(int sheet, int lane, int i, int n, int what) {
        int refused = walkPlan(sheet, lane, i, n, what >= 0 && what <= 5);
        if (refused != 0) return refused;
        if (what == 1) return walk.firstWrong;
        if (walk.firstWrong != NONE) return -100 - walk.firstWrong;
        switch (what) {
            case 0: return walk.minutes;
            case 2: return walk.dealt;
            case 3: return walk.firstHeard;
            case 4: return walk.left;
            default: return walk.at;
        }
    }

    /** Walks a plan, and answers 0, or why it is refused: plan() and odds() tell the same refusals in the same order. */
    private int walkPlan(int sheet, int lane, int i, int n, boolean knownWhat) {
        lastFault = 0;
        if (!Sheets.isSheet(sheet)) return UNKNOWN;
        if (!Sheets.isLane(lane) || n < 0 || n > MOST_STEPS || !knownWhat) return OUTSIDE;
        if (!yard.stands()) return STATE;
        int fault = sheets.faultOfRow(sheet, lane);
        if (fault != 0) return faulty(fault);
        if (!sheets.hasCells(sheet, i, n)) return faulty(INDEX_FAULT);
        sheets.lift(sheet, i, n, taken);
        if (!yard.areSteps(taken, n)) return UNKNOWN;
        walk.go(yard, taken, n);
        return 0;
    }

    // ---- 3 quiet orders, the soonest

    public int quiet(int k) {
        if (k < 0) return UNKNOWN;
        if (!yard.stands()) return STATE;
        order.find(yard);
        if (order.leftOver != 0 || k >= order.length) return NONE;
        return order.row[k];
    }

    public int stuck() {
        if (!yard.stands()) return STATE;
        order.find(yard);
        return order.leftOver;
    }

    public int soonest() {
        if (!yard.stands()) return STATE;
        return search.leastMinutes(yard, 0);
    }

    public int most() {
        if (!yard.stands()) return STATE;
        return search.largestBy(yard, yard.sign);
    }

    public int without(int m) {
        if (!yard.isMan(m)) return UNKNOWN;
        return search.leastMinutes(yard, 1 << m);
    }

    // ---- 4 what was heard

    public int reading(int m, int c, boolean heard) {
        if (!yard.isMan(m) || !yard.isCell(c)) return UNKNOWN;
        if (readings.count >= Readings.MOST) return FULL;
        return readings.add(m, c, heard);
    }

    public int back(int k) {
        if (k < 0 || k > readings.count) return OUTSIDE;
        readings.count -= k;
        return readings.count;
    }

    public int holds() {
        if (!yard.stands()) return STATE;
        return readings.allSo(yard) ? 1 : 0;
    }

    public int hearing(int m) {
        if (!yard.isMan(m)) return UNKNOWN;
        int set = 0;
        for (int ear = 0; ear <= Yard.BEST_EAR; ear++) {
            if (readings.allSoIf(yard, m, yard.kind[m], ear)) set |= 1 << ear;
        }
        return set;
    }

    public int kinds(int m) {
        if (!yard.isMan(m)) return UNKNOWN;
        int set = 0;
        for (int kind = MAN; kind <= CHIEF; kind++) {
            if (readings.allSoIf(yard, m, kind, yard.ear[m])) set |= 1 << kind;
        }
        return set;
    }

    /**
     * No pour is heard just if all who could hear one sleep: of the sets of
     * sleepers one in two to the power of their number. So the upper number is 1.
     */
    public long odds(int sheet, int lane, int i, int n, int which) {
        int refused = walkPlan(sheet, lane, i, n, which == 0 || which == 1);
        if (refused != 0 || walk.firstWrong != NONE) return LOST;
        return which == 0 ? 1L : 1L << Integer.bitCount(walk.couldHear);
    }

    // ---- 5 sheets, parts

    public int sheet(int k, int lane, int n) {
        lastFault = 0;
        if (!Sheets.isSheet(k)) return UNKNOWN;
        if (!Sheets.isLane(lane) || n > Sheets.LONGEST) return OUTSIDE;
        if (n < 0) return faulty(SIZE_FAULT);
        sheets.renew(k, lane, n);
        return 1;
    }

    public int lose(int k) {
        if (!Sheets.isSheet(k)) return UNKNOWN;
        if (sheets.isBare(k)) return 0;
        sheets.bare(k);
        return 1;
    }

    public int put(int k, int i, int v) {
        lastFault = 0;
        if (!Sheets.isSheet(k)) return UNKNOWN;
        if (sheets.isBare(k)) return faulty(NULL_FAULT);
        if (!sheets.hasCell(k, i)) return faulty(INDEX_FAULT);
        sheets.write(k, i, v);
        return 1;
    }

    public long cell(int k, int i, int lane) {
        lastFault = 0;
        if (!Sheets.isSheet(k) || !Sheets.isLane(lane)) return LOST;
        lastFault = sheets.faultOfRow(k, lane);
        if (lastFault == 0 && !sheets.hasCell(k, i)) lastFault = INDEX_FAULT;
        return lastFault == 0 ? sheets.at(k, i) : LOST;
    }

    public int copy(int k, int i, int other, int j, int n) {
        lastFault = 0;
        if (!Sheets.isSheet(k) || !Sheets.isSheet(other)) return UNKNOWN;
        if (sheets.isBare(k) || sheets.isBare(other)) return faulty(NULL_FAULT);
        if (!sheets.areAlike(k, other)) return faulty(CAST_FAULT);
        if (!sheets.hasCells(k, i, n) || !sheets.hasCells(other, j, n)) return faulty(INDEX_FAULT);
        sheets.move(k, i, other, j, n);
        return n;
    }

    public int tell(int m) {
        if (!yard.isMan(m)) return UNKNOWN;
        switch (yard.kind[m]) {
            case CHIEF: return chiefTells(m);
            case WATCHFUL: return watchfulTells(m);
            default: return manTells(m);
        }
    }

    private int manTells(int m) {
        leaveTrace(1);
        return yard.ear[m];
    }

    private int watchfulTells(int m) {
        leaveTrace(2);
        return manTells(m) + 100;
    }

    private int chiefTells(int m) {
        leaveTrace(3);
        int asWatchful = watchfulTells(m);
        return asWatchful + manTells(m);
    }

    public int ask(int m) {
        if (!yard.isMan(m)) return UNKNOWN;
        if (yard.kind[m] == CHIEF) {
            leaveTrace(5);
            return 70;
        }
        leaveTrace(4);
        return m;
    }

    private void leaveTrace(int body) {
        traced = 31 * traced + body;
    }

    /** Each kind is one of all kinds below it, too. */
    public int as(int m, int kind) {
        lastFault = 0;
        if (!yard.isMan(m)) return UNKNOWN;
        if (kind < MAN || kind > CHIEF) return OUTSIDE;
        if (yard.kind[m] < kind) return faulty(CAST_FAULT);
        return 1;
    }

    public int trace() {
        return traced;
    }

    public int fault() {
        return lastFault;
    }

    public int many(int what) {
        switch (what) {
            case 0: return yard.cells;
            case 1: return yard.men;
            case 2: return yard.oils;
            case 3: return yard.canHolds;
            case 4: return yard.sign;
            case 5: return readings.count;
            default: return OUTSIDE;
        }
    }

    private int faulty(int fault) {
        lastFault = fault;
        return -10 - fault;
    }

    /** The four sheets, each in its own part of one row of numbers that is made once. */
    private static final class Sheets {
        static final int LONGEST = 60;
        private static final int MANY = 4, BYTES = 0, SHORTS = 1, INTS = 2, BARE = -1;

        private final int[] numbers = new int[MANY * LONGEST];
        private final int[] lanes = {BARE, BARE, BARE, BARE};
        private final int[] lengths = new int[MANY];

        static boolean isSheet(int k) {
            return k >= 0 && k < MANY;
        }

        static boolean isLane(int lane) {
            return lane >= BYTES && lane <= INTS;
        }

        boolean isBare(int k) {
            return lanes[k] == BARE;
        }

        boolean areAlike(int k, int other) {
            return lanes[k] == lanes[other];
        }

        /** The fault of taking what a sheet has as a row of a lane; 0: none. */
        int faultOfRow(int k, int lane) {
            if (isBare(k)) return NULL_FAULT;
            return lanes[k] == lane ? 0 : CAST_FAULT;
        }

        boolean hasCell(int k, int i) {
            return i >= 0 && i < lengths[k];
        }

        /** n is held against what is left behind i, as i + n could wrap. */
        boolean hasCells(int k, int i, int n) {
            return i >= 0 && i <= lengths[k] && n >= 0 && n <= lengths[k] - i;
        }

        void renew(int k, int lane, int n) {
            lanes[k] = lane;
            lengths[k] = n;
            for (int i = 0; i < LONGEST; i++) numbers[k * LONGEST + i] = 0;
        }

        void bare(int k) {
            lanes[k] = BARE;
            lengths[k] = 0;
        }

        int at(int k, int i) {
            return numbers[k * LONGEST + i];
        }

        void write(int k, int i, int v) {
            numbers[k * LONGEST + i] = cut(lanes[k], v);
        }

        private static int cut(int lane, int v) {
            switch (lane) {
                case BYTES: return (byte) v;
                case SHORTS: return (short) v;
                default: return v;
            }
        }

        /** System.arraycopy takes cells that overlap as they were, which copy() asks for. */
        void move(int k, int i, int other, int j, int n) {
            System.arraycopy(numbers, k * LONGEST + i, numbers, other * LONGEST + j, n);
        }

        void lift(int k, int i, int n, int[] row) {
            for (int at = 0; at < n && at < row.length; at++) row[at] = at(k, i + at);
        }
    }

    /** What a text tells, and what was set since it was taken. */
    private static final class Yard {
        static final int LARGEST_CAN = 6, BEST_EAR = 5, MOST_MEN = 6, MOST_OILS = 2, FIRST_OIL = 6;
        private static final int HIGHEST = 4, NARROWEST = 2, WIDEST = 6;

        int cells;
        int men;
        int oils;
        int asleep;
        int canHolds;
        int sign;
        final int[] inCell = new int[HIGHEST * WIDEST];
        final int[] kind = new int[MOST_MEN];
        final int[] ear = new int[MOST_MEN];
        final int[] manCell = new int[MOST_MEN];
        final int[] oilCell = new int[MOST_OILS];
        private final int[] rowOf = new int[HIGHEST * WIDEST];
        private final int[] acrossOf = new int[HIGHEST * WIDEST];

        boolean stands() {
            return cells > 0;
        }

        boolean isCell(int c) {
            return c >= 0 && c < cells;
        }

        boolean isMan(int m) {
            return m >= 0 && m < men;
        }

        boolean sleeps(int m) {
            return (asleep >> m & 1) != 0;
        }

        /** Makes this yard anew by a text; answers its first fault, and NONE if it is taken. */
        int readText(int[] codes, int n) {
            clear();
            if (codeAt(codes, n, 0) != 'y') return 0;
            int high = codeAt(codes, n, 1) - '0';
            if (high < 1 || high > HIGHEST) return 1;
            int wide = codeAt(codes, n, 2) - '0';
            if (wide < NARROWEST || wide > WIDEST) return 2;
            int place = 3;
            for (int row = 0; row < high; row++) {
                if (codeAt(codes, n, place) != ';') return place;
                place++;
                for (int across = 0; across < wide; across++) {
                    int next = readCell(codes, n, place);
                    if (next < 0) return -1 - next;
                    addCell(row, across);
                    place = next;
                }
            }
            return place < n ? place : NONE;
        }

        private void clear() {
            cells = 0;
            men = 0;
            oils = 0;
            asleep = 0;
            canHolds = 1;
            sign = 30;
        }

        /** Beyond the end it answers 0, with which no text goes on: so the fault of a text that ends too soon is its end. */
        private static int codeAt(int[] codes, int n, int place) {
            return place < n && place < codes.length ? codes[place] : 0;
        }

        /** Reads what is in the next cell; answers the place behind it, or -1 less the place of a fault. */
        private int readCell(int[] codes, int n, int place) {
            int code = codeAt(codes, n, place);
            inCell[cells] = NONE;
            if (code == '.') return place + 1;
            if (code == 'o') {
                if (oils == MOST_OILS) return -1 - place;
                addOil();
                return place + 1;
            }
            int manKind = kindOf(code);
            if (manKind == NONE || men == MOST_MEN) return -1 - place;
            int manEar = codeAt(codes, n, place + 1) - '0';
            if (manEar < 0 || manEar > BEST_EAR) return -1 - (place + 1);
            addMan(manKind, manEar);
            return place + 2;
        }

        private static int kindOf(int letter) {
            switch (letter) {
                case 'm': return MAN;
                case 'w': return WATCHFUL;
                case 'c': return CHIEF;
                default: return NONE;
            }
        }

        private void addOil() {
            oilCell[oils] = cells;
            inCell[cells] = FIRST_OIL + oils;
            oils++;
        }

        private void addMan(int manKind, int manEar) {
            kind[men] = manKind;
            ear[men] = manEar;
            manCell[men] = cells;
            inCell[cells] = men;
            men++;
        }

        private void addCell(int row, int across) {
            rowOf[cells] = row;
            acrossOf[cells] = across;
            cells++;
        }

        int apart(int c, int other) {
            return Math.abs(rowOf[c] - rowOf[other]) + Math.abs(acrossOf[c] - acrossOf[other]);
        }

        /** How far one who is awake hears. */
        static int reach(int kind, int ear) {
            switch (kind) {
                case CHIEF: return 2 * (ear + 1);
                case WATCHFUL: return ear + 1;
                default: return ear;
            }
        }

        /** All who hear a pour at a cell, if all stand and are awake. */
        int hearersAt(int c) {
            int set = 0;
            for (int m = 0; m < men; m++) {
                if (apart(c, manCell[m]) <= reach(kind[m], ear[m])) set |= 1 << m;
            }
            return set;
        }

        boolean areSteps(int[] steps, int n) {
            for (int at = 0; at < n && at < steps.length; at++) {
                if (!isMan(steps[at]) && !isOil(steps[at])) return false;
            }
            return true;
        }

        private boolean isOil(int step) {
            return step >= FIRST_OIL && step < FIRST_OIL + oils;
        }
    }

    /** The servant's way through the steps of a plan, up to the first that can't be. */
    private static final class Walk {
        int minutes;
        int firstWrong;
        int firstHeard;
        int dealt;
        int left;
        int at;
        int couldHear;

        void go(Yard yard, int[] steps, int n) {
            minutes = 0;
            firstWrong = NONE;
            firstHeard = NONE;
            dealt = 0;
            left = 0;
            at = 0;
            couldHear = 0;
            for (int place = 0; place < n && place < steps.length && firstWrong == NONE; place++) {
                int step = steps[place];
                if (step >= Yard.FIRST_OIL) fill(yard, step - Yard.FIRST_OIL);
                else if (left > 0 && stands(step)) pour(yard, step, place);
                else firstWrong = place;
            }
        }

        private boolean stands(int m) {
            return (dealt >> m & 1) == 0;
        }

        private void fill(Yard yard, int oil) {
            walkTo(yard, yard.oilCell[oil]);
            left = yard.canHolds;
        }

        private void walkTo(Yard yard, int c) {
            minutes += yard.apart(at, c) + 1;
            at = c;
        }

        /** Who is poured on counts as dealt with ahead of the hearing, as he himself does not matter. */
        private void pour(Yard yard, int m, int place) {
            walkTo(yard, yard.manCell[m]);
            left--;
            dealt |= 1 << m;
            int hearers = yard.hearersAt(at) & ~dealt;
            couldHear |= hearers;
            if (firstHeard == NONE && (hearers & ~yard.asleep) != 0) firstHeard = place;
        }
    }

    /** An order of the men by which no pour is heard, as far as it goes. */
    private static final class Order {
        final int[] row = new int[Yard.MOST_MEN];
        int length;
        int leftOver;

        /**
         * The fewer stand, the fewer hear: who can be dealt with stays so. So to
         * take the first who can be, each time, gives the first of all orders, and
         * it stops short just where every order does.
         */
        void find(Yard yard) {
            length = 0;
            leftOver = (1 << yard.men) - 1;
            for (int turn = 0; turn < yard.men; turn++) {
                int next = firstUnheard(yard);
                if (next == NONE) return;
                row[length] = next;
                length++;
                leftOver &= ~(1 << next);
            }
        }

        private int firstUnheard(Yard yard) {
            for (int m = 0; m < yard.men; m++) {
                int others = leftOver & ~(1 << m) & ~yard.asleep;
                boolean stillStands = (leftOver >> m & 1) != 0;
                if (stillStands && (yard.hearersAt(yard.manCell[m]) & others) == 0) return m;
            }
            return NONE;
        }
    }

    /**
     * The least minutes for each set of men dealt with, no pour heard, by the last
     * of them (START: none yet) and what is left in the can. Between two pours
     * she goes straight, or by one oil: more oils there only take longer.
     */
    private static final class Search {
        private static final int SETS = 1 << Yard.MOST_MEN, START = Yard.MOST_MEN, LASTS = START + 1;
        private static final int LEFTS = Yard.LARGEST_CAN, NEVER = Integer.MAX_VALUE;

        private final int[] least = new int[SETS * LASTS * LEFTS];
        private final int[] leastOfSet = new int[SETS];
        private final int[] hearers = new int[Yard.MOST_MEN];

        int leastMinutes(Yard yard, int absent) {
            int all = (1 << yard.men) - 1;
            spread(yard, all & ~absent);
            int minutes = leastOfSet[all & ~absent];
            return minutes == NEVER ? NONE : minutes;
        }

        int largestBy(Yard yard, int minute) {
            int all = (1 << yard.men) - 1;
            spread(yard, all);
            int largest = 0;
            for (int set = 1; set <= all; set++) {
                boolean inTime = leastOfSet[set] <= minute;
                if (inTime && Integer.bitCount(set) > Integer.bitCount(largest)) largest = set;
            }
            return largest;
        }

        /** A set comes only from smaller numbers, so each is settled as its turn comes. */
        private void spread(Yard yard, int present) {
            begin(yard, present);
            for (int set = 0; set <= present; set++) {
                leastOfSet[set] = leastIn(set);
                if (leastOfSet[set] == NEVER) continue;
                for (int m = 0; m < yard.men; m++) {
                    if (isQuiet(m, present & ~set)) pourOn(yard, set, m);
                }
            }
        }

        private boolean isQuiet(int m, int standing) {
            return (standing >> m & 1) != 0 && (hearers[m] & standing) == 0;
        }

        private void begin(Yard yard, int present) {
            for (int k = 0; k < (present + 1) * LASTS * LEFTS; k++) least[k] = NEVER;
            least[START * LEFTS] = 0;
            for (int m = 0; m < yard.men; m++) {
                hearers[m] = yard.hearersAt(yard.manCell[m]) & ~yard.asleep & ~(1 << m);
            }
        }

        private int leastIn(int set) {
            int found = NEVER;
            for (int k = set * LASTS * LEFTS; k < (set + 1) * LASTS * LEFTS; k++) {
                found = Math.min(found, least[k]);
            }
            return found;
        }

        private void pourOn(Yard yard, int set, int m) {
            for (int last = 0; last < LASTS; last++) {
                if (!canBeLast(set, last)) continue;
                int from = last == START ? 0 : yard.manCell[last];
                int straight = yard.apart(from, yard.manCell[m]) + 1;
                int byOil = minutesByOil(yard, from, yard.manCell[m]);
                for (int left = 0; left < LEFTS; left++) {
                    int minutes = least[(set * LASTS + last) * LEFTS + left];
                    if (minutes == NEVER) continue;
                    if (left > 0) offer(set | 1 << m, m, left - 1, minutes + straight);
                    if (byOil != NEVER) offer(set | 1 << m, m, yard.canHolds - 1, minutes + byOil);
                }
            }
        }

        private static boolean canBeLast(int set, int last) {
            return last == START ? set == 0 : (set >> last & 1) != 0;
        }

        private static int minutesByOil(Yard yard, int from, int to) {
            int found = NEVER;
            for (int oil = 0; oil < yard.oils; oil++) {
                int c = yard.oilCell[oil];
                found = Math.min(found, yard.apart(from, c) + 1 + yard.apart(c, to) + 1);
            }
            return found;
        }

        private void offer(int set, int last, int left, int minutes) {
            int k = (set * LASTS + last) * LEFTS + left;
            least[k] = Math.min(least[k], minutes);
        }
    }

    /** What is told of who heard a pour, the latest last. */
    private static final class Readings {
        static final int MOST = 8;
        int count;
        private final int[] man = new int[MOST];
        private final int[] place = new int[MOST];
        private final boolean[] heard = new boolean[MOST];

        int add(int m, int c, boolean isHeard) {
            man[count] = m;
            place[count] = c;
            heard[count] = isHeard;
            count++;
            return count - 1;
        }

        boolean allSo(Yard yard) {
            for (int k = 0; k < count; k++) {
                if (!isSo(yard, k, yard.kind[man[k]], yard.ear[man[k]])) return false;
            }
            return true;
        }

        /** Whether all are so, if a man were of a kind and had an ear. */
        boolean allSoIf(Yard yard, int m, int kind, int ear) {
            for (int k = 0; k < count; k++) {
                int who = man[k];
                boolean so = who == m ? isSo(yard, k, kind, ear) : isSo(yard, k, yard.kind[who], yard.ear[who]);
                if (!so) return false;
            }
            return true;
        }

        private boolean isSo(Yard yard, int k, int kind, int ear) {
            boolean hears = yard.apart(place[k], yard.manCell[man[k]]) <= Yard.reach(kind, ear);
            return hears == heard[k];
        }
    }
}
