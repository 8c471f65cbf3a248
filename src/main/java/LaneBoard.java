import java.util.Arrays;

/**
 * A board of lanes: THE CODE is done by GROUPS of thirty-two LANES in step, GROUPS stand in BLOCKS, and a
 * processor with eight places picks one GROUP a TICK. The words in capitals are those of the document.
 *
 * All arrays are made once, with the object, and used again by every call: no call makes an object.
 */
public final class LaneBoard {
    public static final int NONE = -1, UNKNOWN = -1000001, OUTSIDE = -1000002, STATE = -1000003, FULL = -1000004;

    private static final int MOST_ACTS = 90, WHOLES = 8, REALS = 4, MOST_OWN = 16, FIRST_OWN = 4;
    private static final int ROWS = 6, MOST_CELLS = 256, LANES = 32, ALL_LANES = -1;
    private static final int MOST_BLOCKS = 6, MOST_SIZE = 4, MOST_GROUPS = 24, MOST_SHARED = 64;
    private static final int PLACES = 8, MOST_TICKS = 2000, MOST_STEP = 400, RULES = 4;
    // A parted WAY is smaller than the one below it, and there are at most two at each size: 63 are enough.
    private static final int MOST_WAYS = 64;
    private static final int LOOKED_AT = 1000, MOST_TOLD = 20, RACE_FACTS = 8;
    private static final int LINE_BITS = 5, LINE_COST = 3;

    private static final int SORT_BYTES = 0, SORT_SHORTS = 1, SORT_INTS = 2, SORT_FLOATS = 3, SORTS = 4;

    private static final int SET = 0, MOVE = 1, DIVIDE = 5, REST = 6, EQUAL = 13, LANE_NUMBER = 14, GROUP_NUMBER = 15;
    private static final int BLOCK_NUMBER = 16, GROUP_COUNT = 17, TO_REAL = 18, REAL_LESS = 23, TO_WHOLE = 24;
    private static final int LOAD = 25, STORE = 26, LOAD_REAL = 27, STORE_REAL = 28, ROW_ADD = 29;
    private static final int SHARED_LOAD = 30, SHARED_STORE = 31, SHARED_ADD = 32;
    private static final int OWN_LOAD = 33, OWN_STORE = 34, NEW_OWN = 35, BRANCH = 36, JUMP = 37;
    private static final int ANY = 38, ALL = 39, COUNT = 40, SHUFFLE = 41, FENCE = 42, STOP = 43, OPS = 44;

    private static final int NOTHING = 1, CAST = 2, PLACE = 3, SIZE = 4, ZERO = 5, UNREAL = 6, ROOM = 7, LANE_SPENT = 8;

    private static final int NO_LAUNCH = 0, GOES_ON = 1, OVER = 2, STUCK = 3, SPENT = 4;

    private static final int RUNS = 0, WAITS = 1, IS_STUCK = 2, IS_FAILED = 3, IS_ENDED = 4;

    // The numbers that told() answers to, and the places where a LAUNCH keeps them.
    private static final int T_STATE = 0, T_NOW = 1, T_IDLE = 2, T_GROUPS = 3, T_ENDED = 4, T_FAILED = 5;
    private static final int T_FAIL_GROUP = 6, T_FAIL_LANE = 7, T_FAIL_ACT = 8, T_FAILURE = 9;
    private static final int T_ACTS = 10, T_COST = 11, T_PAIRS = 12, T_TOUCHES = 13, T_COUNT = 14;

    private static final int READS = 0, WRITES = 1, ADDS = 2;

    private static final int LEFT_WHOLES = 6, LEFT_OWN = 7, LEFT_SHARED = 8;

    // How many numbers a, b, c of each OP may be, from 0 on; 0: it is not looked at; -1: ACTS, with THE END.
    private static final int[] NEED_A = {
        8, 8, 8, 8, 8, 8, 8, 8, 8, 8, 8, 8, 8, 8, 8, 8, 8, 8,
        4, 4, 4, 4, 4, 8, 8, 8, 8, 4, 4, 8, 8, 8, 8, 8, 8, 0, 8, 0, 8, 8, 8, 8, 0, 0};
    private static final int[] NEED_B = {
        0, 8, 8, 8, 8, 8, 8, 8, 8, 8, 8, 8, 8, 8, 0, 0, 0, 0,
        8, 4, 4, 4, 4, 4, 4, 6, 6, 6, 6, 6, 0, 0, 0, 0, 0, 0, -1, -1, 8, 8, 8, 8, 0, 0};
    private static final int[] NEED_C = {
        0, 0, 8, 8, 8, 8, 8, 8, 8, 8, 8, 8, 8, 8, 0, 0, 0, 0,
        0, 4, 4, 4, 4, 4, 0, 8, 8, 8, 8, 8, 8, 8, 8, 8, 8, 8, 0, 0, 0, 0, 0, 8, 0, 0};

    private final Code acts;
    private final Rows rows;
    private final Rows start;
    private final Launch run;
    private final Code keptActs;
    private final Rows keptRows;
    private final Rows keptStart;
    private final Launch keptRun;
    private boolean isKept;
    // alone() and differ() work in these, so that nothing of the LAUNCH itself changes.
    private final Rows spareRows;
    private final Launch spareRun;
    private final Left remains;
    private final int[] otherFacts;

    public LaneBoard() {
        acts = new Code();
        rows = new Rows();
        start = new Rows();
        run = new Launch(acts, rows);
        keptActs = new Code();
        keptRows = new Rows();
        keptStart = new Rows();
        keptRun = new Launch(keptActs, keptRows);
        isKept = false;
        spareRows = new Rows();
        spareRun = new Launch(acts, spareRows);
        remains = new Left();
        otherFacts = new int[4];
    }

    // ---- code, rows

    public int code(int op, int a, int b, int c) {
        if (run.goesOn()) return STATE;
        if (acts.count >= MOST_ACTS) return FULL;
        run.vanish();
        acts.add(op, a, b, c);
        return acts.count;
    }

    public int wipe() {
        if (run.goesOn()) return STATE;
        int before = acts.count;
        run.vanish();
        acts.clear();
        return before;
    }

    public int judge() {
        return acts.firstUnsound();
    }

    public int meet(int i) {
        if (!acts.isBranch(i)) return OUTSIDE;
        if (acts.firstUnsound() != NONE) return STATE;
        acts.findMeets();
        return acts.meets[i];
    }

    public int row(int g, int sort, int n) {
        if (!Rows.isNumber(g)) return UNKNOWN;
        if (sort < 0 || sort >= SORTS || n < NONE || n > MOST_CELLS) return OUTSIDE;
        if (run.goesOn()) return STATE;
        run.vanish();
        rows.make(g, sort, n);
        return 1;
    }

    public int put(int g, int place, int v) {
        if (rows.isMissing(g)) return UNKNOWN;
        if (!rows.hasPlace(g, place)) return OUTSIDE;
        rows.write(g, place, v);
        return 1;
    }

    public int cell(int g, int place) {
        if (rows.isMissing(g)) return UNKNOWN;
        if (!rows.hasPlace(g, place)) return OUTSIDE;
        return rows.read(g, place);
    }

    public float real(int g, int place) {
        return rows.hasPlace(g, place) ? rows.readFloat(g, place) : 0;
    }

    // ---- launches

    public int launch(int blocks, int groups, int shared) {
        if (blocks < 1 || blocks > MOST_BLOCKS || groups < 1 || groups > MOST_SIZE) return OUTSIDE;
        if (shared < 0 || shared > MOST_SHARED) return OUTSIDE;
        if (acts.firstUnsound() != NONE) return STATE;
        acts.findMeets();
        start.copyFrom(rows);
        run.begin(blocks, groups, shared);
        run.settleAll();
        return 1;
    }

    public int rule(int rule, int seed) {
        if (rule < 0 || rule >= RULES) return OUTSIDE;
        if (!run.exists()) return STATE;
        run.pickBy(rule, seed);
        return 1;
    }

    public int step(int n) {
        if (n < 0 || n > MOST_STEP) return OUTSIDE;
        if (!run.exists()) return STATE;
        int ticks = 0;
        while (ticks < n && run.goesOn()) {
            run.tick();
            ticks++;
        }
        return ticks;
    }

    public int told(int what) {
        if (what < 0 || what >= T_COUNT) return OUTSIDE;
        return run.fact(what);
    }

    public int group(int n, int what) {
        if (!run.hasGroup(n)) return UNKNOWN;
        if (what < 0 || what > 6) return OUTSIDE;
        return run.groupFact(n, what);
    }

    public int way(int n, int i, int what) {
        if (!run.hasGroup(n) || i < 0 || i >= run.ways.depth[n]) return UNKNOWN;
        if (what < 0 || what > 2) return OUTSIDE;
        int at = n * MOST_WAYS + i;
        return what == 0 ? run.ways.act[at] : what == 1 ? run.ways.lanes[at] : run.ways.over[at];
    }

    public int whole(int n, int lane, int i) {
        if (!run.hasLane(n, lane)) return UNKNOWN;
        if (i < 0 || i >= WHOLES) return OUTSIDE;
        return run.lanes.wholes[(n * LANES + lane) * WHOLES + i];
    }

    public float float0(int n, int lane, int i) {
        if (!run.hasLane(n, lane) || i < 0 || i >= REALS) return 0;
        return run.lanes.reals[(n * LANES + lane) * REALS + i];
    }

    public int own(int n, int lane, int i) {
        if (!run.hasLane(n, lane)) return UNKNOWN;
        int who = n * LANES + lane;
        if (i == NONE) return run.lanes.ownCount[who];
        if (i < 0 || i >= run.lanes.ownCount[who]) return OUTSIDE;
        return run.lanes.ownCells[who * MOST_OWN + i];
    }

    public int shared(int block, int i) {
        if (block < 0 || block >= run.blocks) return UNKNOWN;
        if (i < 0 || i >= run.sharedCount) return OUTSIDE;
        return run.sharedCells[block * MOST_SHARED + i];
    }

    public int race(int i, int what) {
        if (i < 0 || i >= run.touches.toldCount) return UNKNOWN;
        if (what < 0 || what >= RACE_FACTS) return OUTSIDE;
        return run.touches.told[i * RACE_FACTS + what];
    }

    // ---- one lane, other orders

    public int alone(int n, int lane) {
        if (!run.hasLane(n, lane)) return UNKNOWN;
        spareRows.copyFrom(start);
        spareRun.begin(run.blocks, run.size, run.sharedCount);
        spareRun.leaveOnly(n, lane);
        for (int done = 0; done < MOST_TICKS && !spareRun.hasEnded(n); done++) spareRun.perform(n);
        remains.take(spareRun, n, lane);
        return spareRun.hasEnded(n) ? spareRun.fact(T_FAILURE) : LANE_SPENT;
    }

    public int left(int which, int place) {
        if (which < 0 || which > LEFT_SHARED) return OUTSIDE;
        if (place < 0 || place >= remains.lengthOf(which)) return OUTSIDE;
        return remains.valueOf(which, place);
    }

    public int differ(int rule, int seed) {
        if (rule < 0 || rule >= RULES) return OUTSIDE;
        if (!run.exists()) return STATE;
        spareRows.copyFrom(start);
        spareRun.begin(run.blocks, run.size, run.sharedCount);
        spareRun.settleAll();
        spareRun.pickBy(rule, seed);
        for (int ticks = 0; ticks < MOST_TICKS && spareRun.goesOn(); ticks++) spareRun.tick();
        otherFacts[0] = spareRun.fact(T_STATE);
        otherFacts[1] = spareRun.fact(T_NOW);
        otherFacts[2] = spareRun.fact(T_PAIRS);
        otherFacts[3] = spareRun.fact(T_FAILED);
        return spareRows.firstOtherThan(rows);
    }

    public int other(int what) {
        if (what < 0 || what >= otherFacts.length) return OUTSIDE;
        return otherFacts[what];
    }

    public int keep() {
        if (!run.exists()) return STATE;
        keptActs.copyFrom(acts);
        keptRows.copyFrom(rows);
        keptStart.copyFrom(start);
        keptRun.copyFrom(run);
        isKept = true;
        return 1;
    }

    public int back() {
        if (!isKept) return STATE;
        acts.copyFrom(keptActs);
        rows.copyFrom(keptRows);
        start.copyFrom(keptStart);
        run.copyFrom(keptRun);
        return 1;
    }

    public int digest() {
        int d = 7;
        for (int g = 0; g < ROWS; g++) {
            d = 31 * d + rows.lengths[g];
            for (int place = 0; place < rows.lengths[g]; place++) d = 31 * d + rows.read(g, place);
        }
        int wholes = run.blocks * run.size * LANES * WHOLES;
        for (int at = 0; at < wholes; at++) d = 31 * d + run.lanes.wholes[at];
        return d;
    }

    /** THE CODE, with THE MEETS of its BRANCHES. */
    private static final class Code {
        int count;
        final int[] op = new int[MOST_ACTS];
        final int[] a = new int[MOST_ACTS];
        final int[] b = new int[MOST_ACTS];
        final int[] c = new int[MOST_ACTS];
        final int[] meets = new int[MOST_ACTS];
        private boolean meetsFound;
        // For each place those that are on all ways from it to THE END, as bits: 0 .. 63, and from 64 on.
        private final long[] low = new long[MOST_ACTS + 1];
        private final long[] high = new long[MOST_ACTS + 1];

        void add(int newOp, int newA, int newB, int newC) {
            if (count >= MOST_ACTS) return;
            op[count] = newOp;
            a[count] = newA;
            b[count] = newB;
            c[count] = newC;
            count++;
            meetsFound = false;
        }

        void clear() {
            count = 0;
            meetsFound = false;
        }

        void copyFrom(Code from) {
            count = from.count;
            meetsFound = from.meetsFound;
            System.arraycopy(from.op, 0, op, 0, count);
            System.arraycopy(from.a, 0, a, 0, count);
            System.arraycopy(from.b, 0, b, 0, count);
            System.arraycopy(from.c, 0, c, 0, count);
            System.arraycopy(from.meets, 0, meets, 0, count);
        }

        int firstUnsound() {
            for (int i = 0; i < count; i++) {
                if (!isSound(i)) return i;
            }
            return NONE;
        }

        private boolean isSound(int i) {
            int o = op[i];
            if (o < 0 || o >= OPS) return false;
            return fits(a[i], NEED_A[o]) && fits(b[i], NEED_B[o]) && fits(c[i], NEED_C[o]);
        }

        private boolean fits(int number, int need) {
            if (need == 0) return true;
            return number >= 0 && number < (need < 0 ? count + 1 : need);
        }

        boolean isBranch(int i) {
            return i >= 0 && i < count && op[i] == BRANCH;
        }

        /** Only for SOUND CODE: its ways lead to places that are there. */
        void findMeets() {
            if (meetsFound) return;
            Arrays.fill(low, -1L);
            Arrays.fill(high, -1L);
            low[count] = 0;
            high[count] = 0;
            mark(count);
            boolean changed = true;
            // Each round but the last takes a bit from some place, so the bound is never what ends it.
            for (int round = 0; round < 20000 && changed; round++) {
                changed = false;
                for (int i = count - 1; i >= 0; i--) changed |= narrow(i);
            }
            for (int i = 0; i < count; i++) meets[i] = op[i] == BRANCH ? nearest(i) : count;
            meetsFound = true;
        }

        private void mark(int place) {
            if (place < 64) low[place] |= 1L << place;
            else high[place] |= 1L << (place - 64);
        }

        private boolean isOn(int place, int from) {
            return ((place < 64 ? low[from] >>> place : high[from] >>> (place - 64)) & 1) != 0;
        }

        /** What is on all ways from i: itself, and what is on all ways from each place that follows it. */
        private boolean narrow(int i) {
            long oldLow = low[i], oldHigh = high[i];
            int next = op[i] == JUMP ? b[i] : op[i] == STOP ? count : i + 1;
            int second = op[i] == BRANCH ? b[i] : next;
            low[i] = low[next] & low[second];
            high[i] = high[next] & high[second];
            mark(i);
            return low[i] != oldLow || high[i] != oldHigh;
        }

        /**
         * The places on all ways from i stand in a row, each with one fewer ahead of it: the nearest lacks only i.
         * Where no way leads to THE END, all bits of i stay, those of no place too: then none is found.
         */
        private int nearest(int i) {
            int due = Long.bitCount(low[i]) + Long.bitCount(high[i]) - 1;
            for (int place = 0; place < count; place++) {
                if (place != i && isOn(place, i) && Long.bitCount(low[place]) + Long.bitCount(high[place]) == due) {
                    return place;
                }
            }
            return count;
        }
    }

    /** The six ROWS; a length of NONE says that one is missing. */
    private static final class Rows {
        final int[] sorts = new int[ROWS];
        final int[] lengths = new int[ROWS];
        private final int[] ints = new int[ROWS * MOST_CELLS];
        private final float[] floats = new float[ROWS * MOST_CELLS];

        Rows() {
            Arrays.fill(lengths, NONE);
        }

        static boolean isNumber(int g) {
            return g >= 0 && g < ROWS;
        }

        void make(int g, int sort, int n) {
            sorts[g] = sort;
            lengths[g] = n;
            Arrays.fill(ints, g * MOST_CELLS, (g + 1) * MOST_CELLS, 0);
            Arrays.fill(floats, g * MOST_CELLS, (g + 1) * MOST_CELLS, 0);
        }

        boolean isMissing(int g) {
            return !isNumber(g) || lengths[g] == NONE;
        }

        boolean hasPlace(int g, int place) {
            return isNumber(g) && place >= 0 && place < lengths[g];
        }

        int read(int g, int place) {
            int at = g * MOST_CELLS + place;
            return sorts[g] == SORT_FLOATS ? (int) floats[at] : ints[at];
        }

        float readFloat(int g, int place) {
            int at = g * MOST_CELLS + place;
            return sorts[g] == SORT_FLOATS ? floats[at] : (float) ints[at];
        }

        void write(int g, int place, int v) {
            int at = g * MOST_CELLS + place;
            switch (sorts[g]) {
                case SORT_BYTES: ints[at] = (byte) v; break;
                case SORT_SHORTS: ints[at] = (short) v; break;
                case SORT_INTS: ints[at] = v; break;
                default: floats[at] = (float) v;
            }
        }

        void writeFloat(int g, int place, float v) {
            floats[g * MOST_CELLS + place] = v;
        }

        /** 256 times the ROW and the place; the other ROWS have the same SORTS and lengths. */
        int firstOtherThan(Rows those) {
            for (int g = 0; g < ROWS; g++) {
                for (int place = 0; place < lengths[g]; place++) {
                    int at = g * MOST_CELLS + place;
                    boolean other = sorts[g] == SORT_FLOATS
                        ? floats[at] != those.floats[at] : ints[at] != those.ints[at];
                    if (other) return at;
                }
            }
            return NONE;
        }

        void copyFrom(Rows from) {
            for (int g = 0; g < ROWS; g++) {
                sorts[g] = from.sorts[g];
                lengths[g] = from.lengths[g];
                if (lengths[g] <= 0) continue;
                int at = g * MOST_CELLS;
                if (sorts[g] == SORT_FLOATS) System.arraycopy(from.floats, at, floats, at, lengths[g]);
                else System.arraycopy(from.ints, at, ints, at, lengths[g]);
            }
        }
    }

    /** WHOLES, REALS and OWN cells of all LANES; a LANE's number here runs through all GROUPS. */
    private static final class Lanes {
        final int[] wholes = new int[MOST_GROUPS * LANES * WHOLES];
        final float[] reals = new float[MOST_GROUPS * LANES * REALS];
        final int[] ownCells = new int[MOST_GROUPS * LANES * MOST_OWN];
        final int[] ownCount = new int[MOST_GROUPS * LANES];
        private final int[] before = new int[LANES];

        void begin(int groups) {
            int count = groups * LANES;
            Arrays.fill(wholes, 0, count * WHOLES, 0);
            Arrays.fill(reals, 0, count * REALS, 0);
            Arrays.fill(ownCells, 0, count * MOST_OWN, 0);
            Arrays.fill(ownCount, 0, count, FIRST_OWN);
        }

        void copyFrom(Lanes from, int groups) {
            int count = groups * LANES;
            System.arraycopy(from.wholes, 0, wholes, 0, count * WHOLES);
            System.arraycopy(from.reals, 0, reals, 0, count * REALS);
            System.arraycopy(from.ownCells, 0, ownCells, 0, count * MOST_OWN);
            System.arraycopy(from.ownCount, 0, ownCount, 0, count);
        }

        /** OPS 0 to 13: the FAILURE, 0 without one. */
        int doWhole(int who, int op, int a, int b, int c) {
            int at = who * WHOLES;
            if (op == SET) {
                wholes[at + a] = b;
                return 0;
            }
            if (op == MOVE) {
                wholes[at + a] = wholes[at + b];
                return 0;
            }
            int x = wholes[at + b], y = wholes[at + c];
            if (op == DIVIDE || op == REST) {
                if (y == 0) return ZERO;
                wholes[at + a] = op == DIVIDE ? x / y : x % y;
                return 0;
            }
            wholes[at + a] = combine(op, x, y);
            return 0;
        }

        private static int combine(int op, int x, int y) {
            switch (op) {
                case 2: return x + y;
                case 3: return x - y;
                case 4: return x * y;
                case 7: return x & y;
                case 8: return x | y;
                case 9: return x ^ y;
                case 10: return x << y;
                case 11: return x >> y;
                case 12: return x < y ? 1 : 0;
                default: return x == y ? 1 : 0;
            }
        }

        /** OPS 18 to 24: the FAILURE, 0 without one. */
        int doReal(int who, int op, int a, int b, int c) {
            int at = who * REALS;
            if (op == TO_REAL) {
                reals[at + a] = (float) wholes[who * WHOLES + b];
                return 0;
            }
            if (op == TO_WHOLE) {
                wholes[who * WHOLES + a] = (int) reals[at + b];
                return 0;
            }
            float x = reals[at + b], y = reals[at + c];
            if (op == REAL_LESS) {
                wholes[who * WHOLES + a] = x < y ? 1 : 0;
                return 0;
            }
            if (!comesToNumber(op, x, y)) return UNREAL;
            reals[at + a] = op == 19 ? x + y : op == 20 ? x - y : op == 21 ? x * y : x / y;
            return 0;
        }

        /** Asked ahead of the sum itself, since no number but a real one may come to be. */
        private static boolean comesToNumber(int op, float x, float y) {
            boolean bothEndless = isEndless(x) && isEndless(y);
            boolean sameSide = (x > 0) == (y > 0);
            switch (op) {
                case 19: return !bothEndless || sameSide;
                case 20: return !bothEndless || !sameSide;
                case 21: return !(isEndless(x) && y == 0) && !(x == 0 && isEndless(y));
                default: return !bothEndless && !(x == 0 && y == 0);
            }
        }

        private static boolean isEndless(float x) {
            return x > 3.4028235e38f || x < -3.4028235e38f;
        }

        /** OPS 33 to 35: the FAILURE, 0 without one. */
        int doOwn(int who, int op, int a, int c) {
            int number = wholes[who * WHOLES + c];
            int at = who * MOST_OWN;
            if (op == NEW_OWN) {
                if (number < 0) return SIZE;
                if (number > MOST_OWN) return ROOM;
                Arrays.fill(ownCells, at, at + MOST_OWN, 0);
                ownCount[who] = number;
                return 0;
            }
            if (number < 0 || number >= ownCount[who]) return PLACE;
            if (op == OWN_LOAD) wholes[who * WHOLES + a] = ownCells[at + number];
            else ownCells[at + number] = wholes[who * WHOLES + a];
            return 0;
        }

        /** OPS 38 to 41, for all LANES in step of a GROUP: they see wb as it was ahead of the ACT. */
        void doTogether(int g, int inStep, int op, int a, int b, int c) {
            int notZero = 0;
            for (int lane = 0; lane < LANES; lane++) {
                if ((inStep >>> lane & 1) == 0) continue;
                before[lane] = wholes[(g * LANES + lane) * WHOLES + b];
                if (before[lane] != 0) notZero++;
            }
            int answer = notZero;
            if (op == ANY) answer = notZero > 0 ? 1 : 0;
            if (op == ALL) answer = notZero == Integer.bitCount(inStep) ? 1 : 0;
            for (int lane = 0; lane < LANES; lane++) {
                if ((inStep >>> lane & 1) == 0) continue;
                int at = (g * LANES + lane) * WHOLES;
                wholes[at + a] = op == SHUFFLE ? shuffled(inStep, wholes[at + c]) : answer;
            }
        }

        private int shuffled(int inStep, int from) {
            if (from < 0 || from >= LANES || (inStep >>> from & 1) == 0) return -1;
            return before[from];
        }
    }

    /** The STACKS of all GROUPS. */
    private static final class Ways {
        final int[] act = new int[MOST_GROUPS * MOST_WAYS];
        final int[] lanes = new int[MOST_GROUPS * MOST_WAYS];
        final int[] over = new int[MOST_GROUPS * MOST_WAYS];
        final int[] depth = new int[MOST_GROUPS];

        void begin(int g, int allLanes) {
            depth[g] = 0;
            push(g, 0, allLanes, NONE);
        }

        void empty(int g) {
            depth[g] = 0;
        }

        void copyFrom(Ways from, int groups) {
            System.arraycopy(from.act, 0, act, 0, groups * MOST_WAYS);
            System.arraycopy(from.lanes, 0, lanes, 0, groups * MOST_WAYS);
            System.arraycopy(from.over, 0, over, 0, groups * MOST_WAYS);
            System.arraycopy(from.depth, 0, depth, 0, groups);
        }

        private void push(int g, int itsAct, int itsLanes, int overAt) {
            if (depth[g] >= MOST_WAYS) return;
            int at = g * MOST_WAYS + depth[g];
            act[at] = itsAct;
            lanes[at] = itsLanes;
            over[at] = overAt;
            depth[g]++;
        }

        int topAct(int g) {
            return depth[g] == 0 ? NONE : act[g * MOST_WAYS + depth[g] - 1];
        }

        int topLanes(int g) {
            return depth[g] == 0 ? 0 : lanes[g * MOST_WAYS + depth[g] - 1];
        }

        /** All LANES that have not ENDED: the lowest WAY holds them, since it is over nowhere. */
        int livingLanes(int g) {
            return depth[g] == 0 ? 0 : lanes[g * MOST_WAYS];
        }

        void goTo(int g, int nextAct) {
            if (depth[g] > 0) act[g * MOST_WAYS + depth[g] - 1] = nextAct;
        }

        void endLanes(int g, int ended) {
            for (int i = 0; i < depth[g]; i++) lanes[g * MOST_WAYS + i] &= ~ended;
        }

        /** The top WAY parts in two, which meet again at an ACT; the one that is done first comes last. */
        void part(int g, int meetAt, int firstAct, int firstLanes, int secondAct, int secondLanes) {
            goTo(g, meetAt);
            int more = Integer.bitCount(firstLanes) - Integer.bitCount(secondLanes);
            boolean firstHasLeast = Integer.numberOfTrailingZeros(firstLanes) < Integer.numberOfTrailingZeros(secondLanes);
            boolean firstOnTop = more > 0 || more == 0 && firstHasLeast;
            if (firstOnTop && secondAct != meetAt) push(g, secondAct, secondLanes, meetAt);
            if (firstAct != meetAt) push(g, firstAct, firstLanes, meetAt);
            if (!firstOnTop && secondAct != meetAt) push(g, secondAct, secondLanes, meetAt);
        }

        /** LANES at THE END end; WAYS that are over or have no LANES go. */
        void settle(int g, int end) {
            while (depth[g] > 0) {
                int top = g * MOST_WAYS + depth[g] - 1;
                if (act[top] == end) endLanes(g, lanes[top]);
                if (lanes[top] != 0 && act[top] != over[top]) return;
                depth[g]--;
            }
        }
    }

    /** TOUCHES of cells, and the pairs of them that nothing orders. */
    private static final class Touches {
        int count;
        int pairs;
        int toldCount;
        final int[] told = new int[MOST_TOLD * RACE_FACTS];
        private int size;
        // The TOUCHES of one cell are a chain, the earliest first.
        private final int[] chained = new int[ROWS * MOST_CELLS + MOST_BLOCKS * MOST_SHARED];
        private final int[] first = new int[ROWS * MOST_CELLS + MOST_BLOCKS * MOST_SHARED];
        private final int[] latest = new int[ROWS * MOST_CELLS + MOST_BLOCKS * MOST_SHARED];
        private final int[] next = new int[LOOKED_AT];
        private final int[] who = new int[LOOKED_AT];
        private final int[] act = new int[LOOKED_AT];
        private final int[] kind = new int[LOOKED_AT];
        private final int[] actDone = new int[LOOKED_AT];
        private final int[] time = new int[LOOKED_AT];

        void begin(int groupsOfBlock) {
            count = 0;
            pairs = 0;
            toldCount = 0;
            size = groupsOfBlock;
            Arrays.fill(chained, 0);
        }

        void copyFrom(Touches from) {
            count = from.count;
            pairs = from.pairs;
            toldCount = from.toldCount;
            size = from.size;
            System.arraycopy(from.told, 0, told, 0, toldCount * RACE_FACTS);
            System.arraycopy(from.chained, 0, chained, 0, chained.length);
            System.arraycopy(from.first, 0, first, 0, first.length);
            System.arraycopy(from.latest, 0, latest, 0, latest.length);
            int kept = Math.min(count, LOOKED_AT);
            System.arraycopy(from.next, 0, next, 0, kept);
            System.arraycopy(from.who, 0, who, 0, kept);
            System.arraycopy(from.act, 0, act, 0, kept);
            System.arraycopy(from.kind, 0, kind, 0, kept);
            System.arraycopy(from.actDone, 0, actDone, 0, kept);
            System.arraycopy(from.time, 0, time, 0, kept);
        }

        static int rowCell(int g, int place) {
            return g * MOST_CELLS + place;
        }

        static int sharedCell(int block, int place) {
            return ROWS * MOST_CELLS + block * MOST_SHARED + place;
        }

        void add(int cell, int itsLane, int itsAct, int itsKind, int itsActDone, int itsTime) {
            int t = count;
            count++;
            if (t >= LOOKED_AT) return;
            who[t] = itsLane;
            act[t] = itsAct;
            kind[t] = itsKind;
            actDone[t] = itsActDone;
            time[t] = itsTime;
            int earlier = first[cell];
            for (int k = 0; k < chained[cell]; k++) {
                if (isRace(earlier, t)) note(earlier, t, cell);
                earlier = next[earlier];
            }
            if (chained[cell] == 0) first[cell] = t;
            else next[latest[cell]] = t;
            latest[cell] = t;
            chained[cell]++;
        }

        private boolean isRace(int earlier, int later) {
            if (kind[earlier] == READS && kind[later] == READS) return false;
            if (kind[earlier] == ADDS && kind[later] == ADDS) return false;
            int oneGroup = who[earlier] / LANES, otherGroup = who[later] / LANES;
            if (oneGroup == otherGroup) return actDone[earlier] == actDone[later];
            boolean oneBlock = size > 0 && oneGroup / size == otherGroup / size;
            return !oneBlock || time[earlier] == time[later];
        }

        private void note(int earlier, int later, int cell) {
            pairs++;
            if (toldCount >= MOST_TOLD) return;
            int at = toldCount * RACE_FACTS;
            boolean ofRow = cell < ROWS * MOST_CELLS;
            told[at] = who[earlier] / LANES;
            told[at + 1] = who[earlier] % LANES;
            told[at + 2] = act[earlier];
            told[at + 3] = who[later] / LANES;
            told[at + 4] = who[later] % LANES;
            told[at + 5] = act[later];
            told[at + 6] = ofRow ? cell / MOST_CELLS : NONE;
            told[at + 7] = ofRow ? cell % MOST_CELLS : (cell - ROWS * MOST_CELLS) % MOST_SHARED;
            toldCount++;
        }
    }

    /** A LAUNCH over THE CODE and ROWS that it is given; without BLOCKS there is none. */
    private static final class Launch {
        private final Code code;
        final Rows rows;
        final Lanes lanes = new Lanes();
        final Ways ways = new Ways();
        final Touches touches = new Touches();
        final int[] sharedCells = new int[MOST_BLOCKS * MOST_SHARED];
        private final int[] times = new int[MOST_BLOCKS];
        private final int[] modes = new int[MOST_GROUPS];
        private final int[] freeFrom = new int[MOST_GROUPS];
        private final int[] ready = new int[MOST_GROUPS];
        private final int[] tally = new int[T_COUNT];
        int blocks;
        int size;
        int sharedCount;
        private int blocksIn;
        private int rule;
        private int h;
        private int latest;
        // What the ACT that is being done has asked: LINES of a ROW, shared cells.
        private int linesAsked;
        private long cellsAsked;

        Launch(Code itsCode, Rows itsRows) {
            code = itsCode;
            rows = itsRows;
            tally[T_FAIL_GROUP] = NONE;
            tally[T_FAIL_LANE] = NONE;
            tally[T_FAIL_ACT] = NONE;
        }

        void vanish() {
            if (!exists()) return;
            blocks = 0;
            size = 0;
            sharedCount = 0;
            blocksIn = 0;
            touches.begin(0);
            clearTally();
        }

        private void clearTally() {
            Arrays.fill(tally, 0);
            tally[T_FAIL_GROUP] = NONE;
            tally[T_FAIL_LANE] = NONE;
            tally[T_FAIL_ACT] = NONE;
        }

        void begin(int itsBlocks, int itsSize, int itsShared) {
            blocks = itsBlocks;
            size = itsSize;
            sharedCount = itsShared;
            blocksIn = 0;
            pickBy(0, 0);
            latest = NONE;
            int groups = blocks * size;
            lanes.begin(groups);
            touches.begin(size);
            Arrays.fill(sharedCells, 0);
            Arrays.fill(times, 0);
            Arrays.fill(modes, RUNS);
            Arrays.fill(freeFrom, 0);
            clearTally();
            tally[T_STATE] = GOES_ON;
            tally[T_GROUPS] = groups;
            for (int g = 0; g < groups; g++) ways.begin(g, ALL_LANES);
        }

        /** Without ACTS all LANES are at THE END from the beginning. */
        void settleAll() {
            for (int g = 0; g < tally[T_GROUPS]; g++) settle(g);
        }

        /** All other LANES are as if they had ENDED before the beginning. */
        void leaveOnly(int g, int lane) {
            for (int i = 0; i < tally[T_GROUPS]; i++) {
                ways.empty(i);
                modes[i] = IS_ENDED;
            }
            ways.begin(g, 1 << lane);
            modes[g] = RUNS;
            settle(g);
        }

        void copyFrom(Launch from) {
            blocks = from.blocks;
            size = from.size;
            sharedCount = from.sharedCount;
            blocksIn = from.blocksIn;
            rule = from.rule;
            h = from.h;
            latest = from.latest;
            int groups = blocks * size;
            lanes.copyFrom(from.lanes, groups);
            ways.copyFrom(from.ways, groups);
            touches.copyFrom(from.touches);
            System.arraycopy(from.sharedCells, 0, sharedCells, 0, sharedCells.length);
            System.arraycopy(from.times, 0, times, 0, times.length);
            System.arraycopy(from.modes, 0, modes, 0, modes.length);
            System.arraycopy(from.freeFrom, 0, freeFrom, 0, freeFrom.length);
            System.arraycopy(from.tally, 0, tally, 0, tally.length);
        }

        boolean exists() {
            return tally[T_STATE] != NO_LAUNCH;
        }

        boolean goesOn() {
            return tally[T_STATE] == GOES_ON;
        }

        boolean hasGroup(int n) {
            return n >= 0 && n < tally[T_GROUPS];
        }

        boolean hasLane(int n, int lane) {
            return hasGroup(n) && lane >= 0 && lane < LANES;
        }

        int blockOf(int g) {
            return size > 0 ? g / size : 0;
        }

        boolean hasEnded(int g) {
            return modes[g] >= IS_FAILED;
        }

        int fact(int what) {
            return what == T_PAIRS ? touches.pairs : what == T_TOUCHES ? touches.count : tally[what];
        }

        int groupFact(int g, int what) {
            switch (what) {
                case 0: return hasEnded(g) ? code.count : ways.topAct(g);
                case 1: return ways.topLanes(g);
                case 2: return ways.depth[g];
                case 3: return LANES - Integer.bitCount(ways.livingLanes(g));
                case 4: return modes[g];
                case 5: return freeFrom[g];
                default: return g < blocksIn * size ? 1 : 0;
            }
        }

        void pickBy(int itsRule, int seed) {
            rule = itsRule;
            h = seed;
        }

        void tick() {
            for (int i = 0; i < MOST_BLOCKS && nextBlockFits(); i++) blocksIn++;
            int g = pick();
            if (g == NONE) {
                tally[T_IDLE]++;
            } else {
                latest = g;
                perform(g);
            }
            tally[T_NOW]++;
            tally[T_STATE] = stateNow();
        }

        private boolean nextBlockFits() {
            if (blocksIn >= blocks) return false;
            int taken = 0;
            for (int block = 0; block < blocksIn; block++) {
                if (!hasBlockEnded(block)) taken += size;
            }
            return taken + size <= PLACES;
        }

        private boolean hasBlockEnded(int block) {
            for (int g = block * size; g < (block + 1) * size; g++) {
                if (!hasEnded(g)) return false;
            }
            return true;
        }

        private int pick() {
            int count = 0;
            for (int g = 0; g < blocksIn * size; g++) {
                if (modes[g] == RUNS && freeFrom[g] <= tally[T_NOW]) ready[count++] = g;
            }
            if (count == 0) return NONE;
            switch (rule) {
                case 1: return ready[0];
                case 2: return ready[count - 1];
                case 3:
                    h = h * 1103515245 + 12345;
                    return ready[(h >>> 16) % count];
                default: return firstBehindLatest(count);
            }
        }

        private int firstBehindLatest(int count) {
            for (int i = 0; i < count; i++) {
                if (ready[i] > latest) return ready[i];
            }
            return ready[0];
        }

        private int stateNow() {
            if (tally[T_ENDED] == tally[T_GROUPS]) return OVER;
            if (isStuck()) return STUCK;
            return tally[T_NOW] >= MOST_TICKS ? SPENT : GOES_ON;
        }

        private boolean isStuck() {
            for (int g = 0; g < blocksIn * size; g++) {
                if (modes[g] == RUNS) return false;
            }
            return !nextBlockFits();
        }

        /** GROUP g does the ACT of its top WAY, and all that follows at once on it comes about. */
        void perform(int g) {
            int i = ways.topAct(g), inStep = ways.topLanes(g);
            if (i < 0 || i >= code.count) return;
            tally[T_ACTS]++;
            linesAsked = 0;
            cellsAsked = 0;
            switch (code.op[i]) {
                case BRANCH:
                    branch(g, i, inStep);
                    break;
                case JUMP:
                    ways.goTo(g, code.b[i]);
                    break;
                case ANY: case ALL: case COUNT: case SHUFFLE:
                    lanes.doTogether(g, inStep, code.op[i], code.a[i], code.b[i], code.c[i]);
                    ways.goTo(g, i + 1);
                    break;
                case FENCE:
                    modes[g] = inStep == ways.livingLanes(g) ? WAITS : IS_STUCK;
                    break;
                case STOP:
                    ways.endLanes(g, inStep);
                    break;
                default:
                    doEach(g, i, inStep);
            }
            int cost = costOfAsked();
            tally[T_COST] += cost;
            freeFrom[g] = tally[T_NOW] + 1 + cost;
            settle(g);
            if (modes[g] != RUNS) openFence(blockOf(g));
        }

        private int costOfAsked() {
            // Of 64 shared cells a bank has two, 32 apart.
            boolean bankAskedTwice = (cellsAsked & cellsAsked >>> MOST_SHARED / 2) != 0;
            return LINE_COST * Integer.bitCount(linesAsked) + (bankAskedTwice ? 1 : 0);
        }

        private void settle(int g) {
            ways.settle(g, code.count);
            if (ways.depth[g] > 0 || hasEnded(g)) return;
            modes[g] = IS_ENDED;
            tally[T_ENDED]++;
        }

        /** All GROUPS of a BLOCK go on behind their FENCES, if none is left that does not wait. */
        private void openFence(int block) {
            boolean someWaits = false;
            for (int g = block * size; g < (block + 1) * size; g++) {
                if (modes[g] == RUNS || modes[g] == IS_STUCK) return;
                if (modes[g] == WAITS) someWaits = true;
            }
            if (!someWaits) return;
            times[block]++;
            for (int g = block * size; g < (block + 1) * size; g++) {
                if (modes[g] != WAITS) continue;
                modes[g] = RUNS;
                ways.goTo(g, ways.topAct(g) + 1);
                settle(g);
            }
        }

        private void branch(int g, int i, int inStep) {
            int end = code.count, target = code.b[i], next = i + 1;
            int going = 0;
            for (int lane = 0; lane < LANES; lane++) {
                if (lanes.wholes[(g * LANES + lane) * WHOLES + code.a[i]] != 0) going |= 1 << lane;
            }
            going &= inStep;
            int staying = inStep & ~going;
            if (target == end) {
                ways.endLanes(g, going);
                going = 0;
            }
            if (next == end) {
                ways.endLanes(g, staying);
                staying = 0;
            }
            if (going != 0 && staying != 0) ways.part(g, code.meets[i], target, going, next, staying);
            else ways.goTo(g, going != 0 ? target : next);
        }

        private void doEach(int g, int i, int inStep) {
            int op = code.op[i], a = code.a[i], b = code.b[i], c = code.c[i];
            for (int lane = 0; lane < LANES; lane++) {
                if ((inStep >>> lane & 1) == 0) continue;
                int who = g * LANES + lane;
                int failure = 0;
                if (op <= EQUAL) failure = lanes.doWhole(who, op, a, b, c);
                else if (op <= GROUP_COUNT) lanes.wholes[who * WHOLES + a] = numberOf(g, lane, op);
                else if (op <= TO_WHOLE) failure = lanes.doReal(who, op, a, b, c);
                else if (op <= ROW_ADD) failure = doRow(who, i);
                else if (op <= SHARED_ADD) failure = doShared(who, i);
                else failure = lanes.doOwn(who, op, a, c);
                if (failure != 0) {
                    fail(g, lane, i, failure);
                    return;
                }
            }
            ways.goTo(g, i + 1);
        }

        private int numberOf(int g, int lane, int op) {
            switch (op) {
                case LANE_NUMBER: return lane;
                case GROUP_NUMBER: return g - blockOf(g) * size;
                case BLOCK_NUMBER: return blockOf(g);
                default: return size;
            }
        }

        private void fail(int g, int lane, int i, int failure) {
            modes[g] = IS_FAILED;
            ways.empty(g);
            tally[T_ENDED]++;
            if (tally[T_FAILED] == 0) {
                tally[T_FAIL_GROUP] = g;
                tally[T_FAIL_LANE] = lane;
                tally[T_FAIL_ACT] = i;
                tally[T_FAILURE] = failure;
            }
            tally[T_FAILED]++;
        }

        /** OPS 25 to 29: the FAILURE, 0 without one. */
        private int doRow(int who, int i) {
            int op = code.op[i], row = code.b[i];
            int place = lanes.wholes[who * WHOLES + code.c[i]];
            if (rows.isMissing(row)) return NOTHING;
            if (!suits(rows.sorts[row], op)) return CAST;
            if (!rows.hasPlace(row, place)) return PLACE;
            int whole = who * WHOLES + code.a[i], real = who * REALS + code.a[i];
            int kind = op == LOAD || op == LOAD_REAL ? READS : op == ROW_ADD ? ADDS : WRITES;
            switch (op) {
                case LOAD: lanes.wholes[whole] = rows.read(row, place); break;
                case STORE: rows.write(row, place, lanes.wholes[whole]); break;
                case LOAD_REAL: lanes.reals[real] = rows.readFloat(row, place); break;
                case STORE_REAL: rows.writeFloat(row, place, lanes.reals[real]); break;
                default:
                    int was = rows.read(row, place);
                    rows.write(row, place, was + lanes.wholes[whole]);
                    lanes.wholes[whole] = was;
            }
            linesAsked |= 1 << (place >> LINE_BITS);
            touches.add(Touches.rowCell(row, place), who, i, kind, tally[T_ACTS], times[blockOf(who / LANES)]);
            return 0;
        }

        private static boolean suits(int sort, int op) {
            if (op == ROW_ADD) return sort == SORT_INTS;
            return (op == LOAD_REAL || op == STORE_REAL) == (sort == SORT_FLOATS);
        }

        /** OPS 30 to 32: the FAILURE, 0 without one. */
        private int doShared(int who, int i) {
            int op = code.op[i], block = blockOf(who / LANES);
            int place = lanes.wholes[who * WHOLES + code.c[i]];
            if (place < 0 || place >= sharedCount) return PLACE;
            int whole = who * WHOLES + code.a[i], at = block * MOST_SHARED + place;
            int was = sharedCells[at], given = lanes.wholes[whole];
            if (op == SHARED_STORE) sharedCells[at] = given;
            if (op == SHARED_ADD) sharedCells[at] = was + given;
            if (op != SHARED_STORE) lanes.wholes[whole] = was;
            cellsAsked |= 1L << place;
            int kind = op == SHARED_LOAD ? READS : op == SHARED_ADD ? ADDS : WRITES;
            touches.add(Touches.sharedCell(block, place), who, i, kind, tally[T_ACTS], times[block]);
            return 0;
        }
    }

    /** What the latest alone() left. */
    private static final class Left {
        private boolean isThere;
        private final Rows rows = new Rows();
        private final int[] wholes = new int[WHOLES];
        private final int[] ownCells = new int[MOST_OWN];
        private final int[] sharedCells = new int[MOST_SHARED];
        private int ownCount;
        private int sharedCount;

        void take(Launch from, int g, int lane) {
            int who = g * LANES + lane;
            int block = from.blockOf(g);
            isThere = true;
            rows.copyFrom(from.rows);
            System.arraycopy(from.lanes.wholes, who * WHOLES, wholes, 0, WHOLES);
            System.arraycopy(from.lanes.ownCells, who * MOST_OWN, ownCells, 0, MOST_OWN);
            System.arraycopy(from.sharedCells, block * MOST_SHARED, sharedCells, 0, MOST_SHARED);
            ownCount = from.lanes.ownCount[who];
            sharedCount = from.sharedCount;
        }

        /** Before an alone() no length is known: then the longest that there can be counts. */
        int lengthOf(int which) {
            if (which == LEFT_WHOLES) return WHOLES;
            if (which == LEFT_OWN) return isThere ? ownCount : MOST_OWN;
            if (which == LEFT_SHARED) return isThere ? sharedCount : MOST_SHARED;
            return isThere ? rows.lengths[which] : MOST_CELLS;
        }

        int valueOf(int which, int place) {
            if (!isThere) return 0;
            if (which == LEFT_WHOLES) return wholes[place];
            if (which == LEFT_OWN) return ownCells[place];
            if (which == LEFT_SHARED) return sharedCells[place];
            return rows.read(which, place);
        }
    }
}
