/** The sentences of the document's part 1, THE CODE, that name an edge; each stands above its test. */
public final class CodeEdgeTest extends Check {
    public static void main(String[] args) {
        ninetyActs();
        theEnd();
        sixRows();
        wholesWrap();
        wholesCompare();
        wholesOntoThemselves();
        asAFloat();
        cutTowardsZero();
        realsCompare();
        unreal();
        lowestBits();
        rowsOfASort();
        addOfARow();
        placeOfItself();
        sharedCells();
        ownCells();
        newOwnCells();
        newOwnCellsByLanes();
        branchNotZero();
        jumps();
        anyAllCount();
        onlyLanesInStep();
        onlyTheOwnGroup();
        shuffle();
        shuffleNotInStep();
        shuffleAsItWas();
        stop();
        numbersOfALane();
        soundOps();
        soundNeeds();
        soundAnyInt();
        soundActs();
        meets();
        meetsWithoutAWay();
        meetsFarOff();
        meetsByTheirWords();
        meetsOfOtherCode();
        end();
    }

    /** "THE CODE is a row of up to 90 ACTS" */
    private static void ninetyActs() {
        LaneBoard x = new LaneBoard();
        for (int i = 1; i <= 90; i++) due("act " + i, x.code(SET, 0, i, 0), i);
        due("a 91st", x.code(SET, 0, 91, 0), FULL);
        due("a 91st, once more", x.code(-5, 0, 0, 0), FULL);
        due("still sound", x.judge(), NONE);
        ran(x, 1, 1, 0);
        due("all 90 are done", x.told(10), 90);
        due("the 90th last", x.whole(0, 31, 0), 90);
        due("wipe", x.wipe(), 90);
        due("room again", x.code(SET, 0, 1, 0), 1);
    }

    /** "Behind the last ACT is THE END (its number is how many ACTS there are)." */
    private static void theEnd() {
        for (int n : new int[] {1, 2, 63, 64, 65, 89, 90}) {
            LaneBoard x = board(JUMP, 0, n, 0);
            for (int i = 1; i < n; i++) x.code(SET, 0, i, 0);
            due("the end is " + n, x.judge(), NONE);
            x.launch(1, 1, 0);
            due("one act", x.step(400), 1);
            due("it is there", x.group(0, 0), n);
            due("over", x.told(0), 2);
            due("none of the others", x.whole(0, 0, 0), 0);
        }
        for (int n : new int[] {1, 89, 90}) {
            LaneBoard x = board(JUMP, 0, n + 1, 0);
            for (int i = 1; i < n; i++) x.code(SET, 0, i, 0);
            due("behind the end of " + n, x.judge(), 0);
        }
    }

    /** "g of a ROW (0 .. 5)"; "ROWS ... have a length, or are missing (at first)" */
    private static void sixRows() {
        for (int g = 0; g < 6; g++) {
            LaneBoard x = new LaneBoard();
            due("missing at first", x.cell(g, 0), UNKNOWN);
            due("row " + g, x.row(g, 2, 1), 1);
            for (int h = 0; h < 6; h++) due("that one alone", x.cell(h, 0), h == g ? 0 : UNKNOWN);
            due("failed at a missing one", ran(LOAD, 0, g, 0).told(9), 1);
            x.code(STORE, 1, g, 0);
            due("stored", ran(x, 1, 1, 0).told(9), 0);
        }
    }

    private static int whole(int op, int b, int c) {
        return ran(SET, 1, b, 0, SET, 2, c, 0, op, 0, 1, 2).whole(0, 31, 0);
    }

    /** "Ints of the machine, wrapping, shifts by the lowest 5 bits." */
    private static void wholesWrap() {
        int[][] rows = {
            {PLUS, MAX, 1, MIN}, {PLUS, MIN, -1, MAX}, {PLUS, MAX, MAX, -2}, {PLUS, MIN, MIN, 0},
            {MINUS, MIN, 1, MAX}, {MINUS, MAX, -1, MIN}, {MINUS, 0, MIN, MIN}, {MINUS, 3, 5, -2},
            {TIMES, MIN, -1, MIN}, {TIMES, 65536, 65536, 0}, {TIMES, MAX, MAX, 1}, {TIMES, 46341, 46341, -2147479015},
            {DIVIDE, MIN, -1, MIN}, {DIVIDE, -7, 2, -3}, {DIVIDE, 7, -2, -3}, {DIVIDE, 0, 5, 0}, {DIVIDE, MIN, MIN, 1},
            {REST, MIN, -1, 0}, {REST, -7, 2, -1}, {REST, 7, -2, 1}, {REST, MIN, MAX, -1}, {REST, 0, MIN, 0},
            {AND, -1, MIN, MIN}, {AND, 12, 10, 8}, {OR, MIN, MAX, -1}, {OR, 12, 10, 14}, {XOR, -1, -1, 0}, {XOR, 12, 10, 6},
            {LEFT, 1, 31, MIN}, {LEFT, 1, 32, 1}, {LEFT, 1, 33, 2}, {LEFT, 1, -1, MIN}, {LEFT, 3, MIN, 3}, {LEFT, 3, 31, MIN},
            {RIGHT, MIN, 31, -1}, {RIGHT, MIN, 32, MIN}, {RIGHT, 8, 33, 4}, {RIGHT, MIN, -1, -1}, {RIGHT, MAX, 30, 1},
            {RIGHT, -1, 5, -1}, {RIGHT, -8, 1, -4}};
        for (int[] r : rows) due("op " + r[0] + " of " + r[1] + ", " + r[2], whole(r[0], r[1], r[2]), r[3]);
    }

    /** "12 wa = 1 if wb < wc, else 0. 13 likewise ==." */
    private static void wholesCompare() {
        int[][] rows = {
            {LESS, MIN, MAX, 1}, {LESS, MAX, MIN, 0}, {LESS, 5, 5, 0}, {LESS, 4, 5, 1}, {LESS, 6, 5, 0}, {LESS, -1, 0, 1},
            {LESS, MIN, MIN, 0}, {LESS, MAX, MAX, 0}, {LESS, 0, -1, 0},
            {EQUAL, MIN, MIN, 1}, {EQUAL, MIN, MAX, 0}, {EQUAL, 0, MIN, 0}, {EQUAL, 4, 5, 0}, {EQUAL, 6, 5, 0}, {EQUAL, -1, -1, 1}};
        for (int[] r : rows) due("op " + r[0] + " of " + r[1] + ", " + r[2], whole(r[0], r[1], r[2]), r[3]);
    }

    /** "wa is the WHOLE told by a": it may be wb or wc, too. */
    private static void wholesOntoThemselves() {
        int[] want = {14, 0, 49, 1, 0, 7, 7, 0, 7 << 7, 0, 0, 1};
        for (int op = PLUS; op <= EQUAL; op++) {
            for (int w = 0; w < 8; w += 7) {
                due("op " + op + " onto itself", ran(SET, w, 7, 0, op, w, w, w).whole(0, 0, w), want[op - PLUS]);
            }
        }
        LaneBoard x = ran(SET, 7, -3, 0, MOVE, 0, 7, 0, MOVE, 7, 7, 0);
        due("the last to the first", x.whole(0, 31, 0), -3);
        due("onto itself", x.whole(0, 31, 7), -3);
        for (int i = 1; i < 7; i++) due("the others stay", x.whole(0, 31, i), 0);
    }

    /** "18 fa = wb as a float" */
    private static void asAFloat() {
        int[] v = {0, -1, 16777216, 16777217, 16777219, MAX, MIN, MIN + 1};
        float[] want = {0, -1, 16777216f, 16777216f, 16777220f, 2147483648f, -2147483648f, -2147483648f};
        for (int k = 0; k < v.length; k++) {
            LaneBoard x = ran(SET, 7, v[k], 0, REAL, 3, 7, 0);
            dueF(v[k] + " as a float", x.float0(0, 31, 3), want[k]);
            dueF("the others stay", x.float0(0, 31, 2), 0);
        }
    }

    /** What two ints come to as floats, cut. */
    private static int cut(int op, int b, int c) {
        return ran(SET, 0, b, 0, REAL, 0, 0, 0, SET, 0, c, 0, REAL, 1, 0, 0, op, 2, 0, 1, CUT, 7, 2, 0).whole(0, 17, 7);
    }

    /** "24 wa = fb, cut towards 0 (beyond ints their ends)" */
    private static void cutTowardsZero() {
        int[][] rows = {
            {F_DIVIDE, 1, 2, 0}, {F_DIVIDE, -1, 2, 0}, {F_DIVIDE, 3, 2, 1}, {F_DIVIDE, -3, 2, -1}, {F_DIVIDE, 99, 100, 0},
            {F_DIVIDE, -199, 100, -1}, {F_PLUS, 2147483520, 0, 2147483520}, {F_PLUS, MAX, 0, MAX}, {F_PLUS, MAX, MAX, MAX},
            {F_PLUS, MIN, 0, MIN}, {F_MINUS, MIN, 1000, MIN}, {F_TIMES, MIN, MIN, MAX}, {F_TIMES, MIN, MAX, MIN},
            {F_DIVIDE, 1, 0, MAX}, {F_DIVIDE, -1, 0, MIN}, {F_MINUS, 0, 0, 0}, {F_TIMES, -1, 0, 0}};
        for (int[] r : rows) due("op " + r[0] + " of " + r[1] + ", " + r[2], cut(r[0], r[1], r[2]), r[3]);
    }

    private static int less(int b, int c) {
        return ran(SET, 0, b, 0, REAL, 0, 0, 0, SET, 0, c, 0, REAL, 1, 0, 0, F_LESS, 7, 0, 1).whole(0, 0, 7);
    }

    /** "23 wa = 1 if fb < fc, else 0" */
    private static void realsCompare() {
        due("less", less(-2, -1), 1);
        due("as much", less(5, 5), 0);
        due("more", less(6, 5), 0);
        due("alike as floats", less(16777216, 16777217), 0);
        due("the ends", less(MIN, MAX), 1);
        LaneBoard x = ran(SET, 0, -1, 0, REAL, 0, 0, 0, F_TIMES, 1, 0, 2, F_LESS, 5, 1, 2, F_LESS, 6, 2, 1);
        due("-0 is not less than 0", x.whole(0, 0, 5), 0);
        due("nor 0 than -0", x.whole(0, 0, 6), 0);
        due("nothing failed", x.told(9), 0);
        due("all is done", x.told(10), 5);
    }

    /** f0 is endless, f1 is -1 times that, f2 is 0, f3 is 1: then one sum more, onto f3. */
    private static LaneBoard summed(int op, int b, int c) {
        return ran(SET, 0, 1, 0, REAL, 3, 0, 0, F_DIVIDE, 0, 3, 2, F_MINUS, 1, 2, 0, op, 3, b, c, CUT, 7, 3, 0);
    }

    /** "6 UNREAL (19 to 22 come to no number)": each sum of the four, of each two of endless, -endless, 0 and 1. */
    private static void unreal() {
        float[] f = {1f / 0f, -1f / 0f, 0, 1};
        for (int op = F_PLUS; op <= F_DIVIDE; op++) {
            for (int b = 0; b < 4; b++) {
                for (int c = 0; c < 4; c++) {
                    float r = op == F_PLUS ? f[b] + f[c] : op == F_MINUS ? f[b] - f[c] : op == F_TIMES ? f[b] * f[c] : f[b] / f[c];
                    String what = f[b] + ", " + f[c] + " by op " + op;
                    LaneBoard x = summed(op, b, c);
                    boolean number = r == r;
                    due(what, x.told(9), number ? 0 : 6);
                    dueF(what, x.float0(0, 31, 3), number ? r : 1);
                    due(what + ", cut", x.whole(0, 31, 7), number ? (int) r : 0);
                }
            }
        }
        // The greatest float there is, 0x7FFFFF8 * 2^101, less itself is 0; a float more is endless.
        LaneBoard big = ran(SET, 0, 16777215, 0, REAL, 0, 0, 0, SET, 0, 1 << 26, 0, REAL, 1, 0, 0, F_TIMES, 0, 0, 1, F_TIMES, 0, 0, 1,
            F_TIMES, 0, 0, 1, F_TIMES, 0, 0, 1, F_MINUS, 2, 0, 0, F_MINUS, 3, 2, 0, F_MINUS, 3, 3, 3, F_PLUS, 1, 0, 0, F_TIMES, 2, 0, 2);
        dueF("the greatest", big.float0(0, 0, 0), 3.4028235e38f);
        due("it is a number", big.told(9), 0);
        dueF("the least less itself", big.float0(0, 0, 3), 0);
        dueF("twice it", big.float0(0, 0, 1), 1f / 0f);
        dueF("0 times it", big.float0(0, 0, 2), 0);
    }

    private static int stored(int sort, int v) {
        LaneBoard x = board(SET, 0, v, 0, STORE, 0, 0, 1, LOAD, 2, 0, 1);
        x.row(0, sort, 1);
        ran(x, 1, 1, 0);
        due("cell() tells what is loaded", x.cell(0, 0), x.whole(0, 0, 2));
        return x.whole(0, 0, 2);
    }

    /** "a byte, a short gets the lowest bits" */
    private static void lowestBits() {
        int[][] rows = {
            {0, 127, 127}, {0, 128, -128}, {0, -128, -128}, {0, -129, 127}, {0, 255, -1}, {0, 256, 0}, {0, MIN, 0}, {0, MAX, -1},
            {1, 32767, 32767}, {1, 32768, -32768}, {1, -32768, -32768}, {1, -32769, 32767}, {1, 65535, -1}, {1, 65536, 0},
            {1, 128, 128}, {1, MAX, -1}, {2, 32768, 32768}, {2, MAX, MAX}, {2, MIN, MIN}};
        for (int[] r : rows) due(r[1] + " in a row of sort " + r[0], stored(r[0], r[1]), r[2]);
    }

    /** "27, 28 of a ROW of floats, 25, 26 of others"; "29 ... (ROWS of ints alone)" */
    private static void rowsOfASort() {
        int[][] fits = {{1, 1, 1, 0}, {1, 1, 1, 0}, {0, 0, 0, 1}, {0, 0, 0, 1}, {0, 0, 1, 0}};
        for (int op = LOAD; op <= ADD; op++) {
            for (int sort = 0; sort < 4; sort++) {
                LaneBoard x = board(op, 0, 5, 7);
                x.row(5, sort, 1);
                due("op " + op + ", sort " + sort, ran(x, 1, 1, 0).told(9), fits[op - LOAD][sort] == 1 ? 0 : 2);
            }
        }
        LaneBoard x = board(SET, 0, 1, 0, REAL, 3, 0, 0, SET, 0, 4, 0, REAL, 1, 0, 0, F_DIVIDE, 3, 3, 1, F_STORE, 3, 5, 0,
            F_LOAD, 2, 5, 0);
        x.row(5, 3, 5);
        ran(x, 1, 1, 0);
        dueF("a quarter is kept as it is", x.real(5, 4), 0.25f);
        dueF("and loaded so", x.float0(0, 9, 2), 0.25f);
    }

    /** "29 ADD: wa = what the cell is, and the cell becomes that + wa as it was" */
    private static void addOfARow() {
        LaneBoard x = board(SET, 0, 1, 0, ADD, 0, 0, 7);
        x.row(0, 2, 1);
        x.put(0, 0, MAX);
        ran(x, 1, 1, 0);
        due("wrapped, by 32 ones", x.cell(0, 0), MIN + 31);
        due("the first saw", x.whole(0, 0, 0), MAX);
        due("the second saw", x.whole(0, 1, 0), MIN);
        due("the last saw", x.whole(0, 31, 0), MIN + 30);
    }

    /** "LOAD wa = the cell of ROW b at place wc": wa may be wc. */
    private static void placeOfItself() {
        LaneBoard x = board(LANE, 0, 0, 0, ADD, 0, 0, 0, LANE, 1, 0, 0, LOAD, 1, 1, 1, LANE, 2, 0, 0, S_ADD, 2, 0, 2,
            SET, 3, 3, 0, O_STORE, 3, 0, 3, O_LOAD, 3, 0, 3);
        x.row(0, 2, 32);
        x.row(1, 2, 32);
        for (int i = 0; i < 32; i++) {
            x.put(0, i, 100 + i);
            x.put(1, i, 200 + i);
        }
        ran(x, 1, 1, 32);
        for (int i = 0; i < 32; i++) {
            due("added at its own place", x.cell(0, i), 100 + i + i);
            due("what was there", x.whole(0, i, 0), 100 + i);
            due("loaded", x.whole(0, i, 1), 200 + i);
            due("the shared cell", x.shared(0, i), i);
            due("was", x.whole(0, i, 2), 0);
            due("own", x.whole(0, i, 3), 3);
        }
    }

    /** "30 SHARED wa = shared cell wc. 31 it = wa. 32 ADD as 29, of it." */
    private static void sharedCells() {
        for (int op = S_LOAD; op <= S_ADD; op++) {
            for (int place : new int[] {-1, 0, 6, 7, MIN, MAX}) {
                LaneBoard x = board(SET, 1, place, 0, SET, 0, 5, 0, op, 0, 0, 1);
                due("place " + place + " of 7", ran(x, 1, 1, 7).told(9), place >= 0 && place < 7 ? 0 : 3);
            }
            due("none at all", ran(op, 0, 0, 0).told(9), 3);
            due("the 64th", ran(board(SET, 1, 63, 0, op, 0, 0, 1), 6, 1, 64).told(9), 0);
            due("not a 65th", ran(board(SET, 1, 64, 0, op, 0, 0, 1), 6, 1, 64).told(9), 3);
        }
        LaneBoard x = ran(board(SET, 0, MAX, 0, S_STORE, 0, 0, 7, SET, 1, 1, 0, S_ADD, 1, 0, 7, S_LOAD, 2, 0, 7), 1, 1, 1);
        due("wrapped", x.shared(0, 0), MIN + 31);
        due("the last saw", x.whole(0, 31, 1), MIN + 30);
        due("loaded by all alike", x.whole(0, 0, 2), MIN + 31);
    }

    /** "a row of OWN cells (ints; 4 at first)"; "33 wa = OWN cell wc. 34 it = wa." */
    private static void ownCells() {
        for (int op = O_LOAD; op <= O_STORE; op++) {
            for (int place : new int[] {-1, 0, 3, 4, 15, MIN, MAX}) {
                due("own cell " + place, ran(SET, 1, place, 0, op, 0, 0, 1).told(9), place >= 0 && place < 4 ? 0 : 3);
            }
        }
        LaneBoard x = ran(LANE, 0, 0, 0, SET, 1, 3, 0, O_STORE, 0, 0, 1, SET, 0, 9, 0, O_LOAD, 0, 0, 1);
        for (int lane = 0; lane < 32; lane++) due("each lane has its own", x.whole(0, lane, 0), lane);
    }

    /** "35 NEW: wc OWN cells, all 0, in place of those there (at most 16)" */
    private static void newOwnCells() {
        int[][] rows = {{0, 0}, {1, 0}, {4, 0}, {15, 0}, {16, 0}, {17, 7}, {MAX, 7}, {-1, 4}, {MIN, 4}};
        for (int[] r : rows) {
            LaneBoard x = ran(SET, 0, 77, 0, SET, 1, 3, 0, O_STORE, 0, 0, 1, SET, 7, r[0], 0, NEW, 0, 0, 7);
            due("new " + r[0], x.told(9), r[1]);
            due("how many", x.own(0, 5, NONE), r[1] == 0 ? r[0] : 4);
            if (r[1] == 0) for (int i = 0; i < r[0]; i++) due("all 0", x.own(0, 5, i), 0);
            else due("those there stay", x.own(0, 5, 3), 77);
            if (r[1] == 0) due("no more", x.own(0, 5, r[0]), OUTSIDE);
        }
        LaneBoard x = ran(NEW, 0, 0, 7, O_LOAD, 0, 0, 7);
        due("none is left", x.told(9), 3);
        LaneBoard y = ran(SET, 0, 16, 0, NEW, 0, 0, 0, SET, 1, 15, 0, O_STORE, 0, 0, 1, SET, 2, 2, 0, NEW, 0, 0, 2,
            NEW, 0, 0, 0);
        due("fewer and more again: all 0", y.own(0, 0, 15), 0);
    }

    /** NEW of each LANE by itself: of 0 .. 31 cells the first that does not fit is of LANE 17. */
    private static void newOwnCellsByLanes() {
        LaneBoard x = ran(LANE, 0, 0, 0, NEW, 0, 0, 0);
        due("room", x.told(9), 7);
        due("lane 17", x.told(7), 17);
        for (int lane = 0; lane < 32; lane++) due("lane " + lane, x.own(0, lane, NONE), lane <= 16 ? lane : 4);
    }

    /** "36 BRANCH: LANES whose wa is not 0 go to ACT b; the others go on." */
    private static void branchNotZero() {
        for (int v : new int[] {0, 1, -1, MIN, MAX, 256, 65536}) {
            LaneBoard x = ran(SET, 3, v, 0, BRANCH, 3, 3, 0, SET, 0, 1, 0, SET, 1, 1, 0);
            due("with " + v, x.whole(0, 0, 0), v == 0 ? 1 : 0);
            due("behind it", x.whole(0, 0, 1), 1);
        }
    }

    /** "37 JUMP to ACT b": forward, to itself, to THE END, to 0. */
    private static void jumps() {
        LaneBoard x = ran(JUMP, 0, 2, 0, SET, 0, 1, 0, SET, 1, 1, 0, JUMP, 0, 5, 0, SET, 2, 1, 0);
        due("over one", x.whole(0, 0, 0), 0);
        due("there", x.whole(0, 0, 1), 1);
        due("to the end", x.whole(0, 0, 2), 0);
        due("over", x.told(0), 2);
        due("to itself it never ends", ran(JUMP, 0, 0, 0).told(0), 4);
        due("to 0 it never ends", ran(SET, 0, 0, 0, JUMP, 0, 0, 0).told(10), 2000);
    }

    /** "38 ANY wa = 1, if wb of some LANE in STEP is not 0, else 0. 39 ALL: of each. 40 COUNT: of how many." */
    private static void anyAllCount() {
        // w3 is not 0 in the LANES below n.
        int[] n = {0, 1, 31, 32};
        for (int k : n) {
            LaneBoard x = ran(LANE, 0, 0, 0, SET, 1, k, 0, LESS, 2, 0, 1, SET, 3, MIN, 0, TIMES, 3, 3, 2,
                ANY, 4, 3, 0, ALL, 5, 3, 0, COUNT, 6, 3, 0, COUNT, 3, 3, 0);
            for (int lane = 0; lane < 32; lane += 31) {
                due("any of " + k, x.whole(0, lane, 4), k > 0 ? 1 : 0);
                due("all of " + k, x.whole(0, lane, 5), k == 32 ? 1 : 0);
                due("count of " + k, x.whole(0, lane, 6), k);
                due("onto itself", x.whole(0, lane, 3), k);
            }
        }
        LaneBoard y = ran(LANE, 0, 0, 0, ALL, 0, 0, 0);
        due("onto itself: lane 0 is 0", y.whole(0, 31, 0), 0);
        LaneBoard z = ran(LANE, 0, 0, 0, ANY, 0, 0, 0);
        due("onto itself: some are not", z.whole(0, 0, 0), 1);
    }

    /** LANES in another WAY, or that ENDED, are not in STEP: 38 to 41 do not see them. */
    private static void onlyLanesInStep() {
        // LANE 0 (its w0 is 0) parts from the others; both arms ask for w0.
        LaneBoard x = ran(LANE, 0, 0, 0, BRANCH, 0, 6, 0, ANY, 1, 0, 0, ALL, 2, 0, 0, COUNT, 3, 0, 0, JUMP, 0, 9, 0,
            ANY, 1, 0, 0, ALL, 2, 0, 0, COUNT, 3, 0, 0, COUNT, 4, 0, 0);
        int[][] want = {{0, 0, 0, 31}, {1, 1, 31, 31}};
        for (int i = 0; i < 4; i++) {
            due("lane 0, " + i, x.whole(0, 0, 1 + i), want[0][i]);
            due("lane 7, " + i, x.whole(0, 7, 1 + i), want[1][i]);
        }
        LaneBoard y = ran(LANE, 0, 0, 0, BRANCH, 0, 3, 0, STOP, 0, 0, 0, ALL, 1, 0, 0);
        due("all of those that are left", y.whole(0, 1, 1), 1);
        due("nothing for one that ended", y.whole(0, 0, 1), 0);
    }

    /** 38 to 41 are of one GROUP: they see and change no LANE of another, the first and the last GROUP neither. */
    private static void onlyTheOwnGroup() {
        for (int op = ANY; op <= SHUFFLE; op++) {
            LaneBoard x = board(SET, 0, 1, 0, op, 1, 0, 7);
            x.launch(2, 4, 0);
            x.rule(1, 0);
            for (int n = 0; n < 8; n++) {
                x.step(2);
                for (int g = 0; g < 8; g++) {
                    int want = g > n ? 0 : op == COUNT ? 32 : 1;
                    due("op " + op + " of group " + n + ", lane 0 of " + g, x.whole(g, 0, 1), want);
                    due("op " + op + " of group " + n + ", lane 31 of " + g, x.whole(g, 31, 1), want);
                }
            }
            LaneBoard y = ran(board(GROUP, 0, 0, 0, op, 1, 0, 7), 6, 4, 0);
            due("the last group", y.whole(23, 31, 1), op == COUNT ? 32 : op == SHUFFLE ? 3 : 1);
            due("one whose number is 0", y.whole(20, 0, 1), 0);
        }
    }

    /** "41 SHUFFLE wa = wb of LANE wc of the GROUP ...; else -1 (also if there is no such LANE)" */
    private static void shuffle() {
        for (int from : new int[] {0, 1, 31, 32, 33, 64, -1, -32, MIN, MAX}) {
            LaneBoard x = ran(LANE, 0, 0, 0, SET, 7, 100, 0, PLUS, 7, 7, 0, SET, 1, from, 0, SHUFFLE, 2, 7, 1);
            for (int lane = 0; lane < 32; lane += 31) {
                due("of lane " + from, x.whole(0, lane, 2), from >= 0 && from < 32 ? 100 + from : -1);
            }
        }
        LaneBoard x = board(LANE, 0, 0, 0, GROUP, 1, 0, 0, SHUFFLE, 2, 1, 0);
        ran(x, 1, 2, 0);
        due("of the own group", x.whole(1, 9, 2), 1);
        due("of the own group", x.whole(0, 9, 2), 0);
    }

    /** "if that is in STEP; else -1" */
    private static void shuffleNotInStep() {
        // LANES 0 to 15 STOP; of those left 16 and 17 go another way: w3 is what each asks of LANE w1.
        for (int from : new int[] {0, 15, 16, 17, 18, 31}) {
            LaneBoard x = ran(LANE, 0, 0, 0, SET, 1, 16, 0, LESS, 2, 0, 1, BRANCH, 2, 11, 0, SET, 1, 18, 0, LESS, 2, 0, 1,
                SET, 1, from, 0, BRANCH, 2, 10, 0, SHUFFLE, 3, 0, 1, JUMP, 0, 11, 0, SHUFFLE, 3, 0, 1);
            due("16 asks " + from, x.whole(0, 16, 3), from == 16 || from == 17 ? from : -1);
            due("31 asks " + from, x.whole(0, 31, 3), from >= 18 ? from : -1);
            due("15 has ended", x.whole(0, 15, 3), 0);
        }
    }

    /** "wb ... as it was": also where wa is wb, or wc. */
    private static void shuffleAsItWas() {
        LaneBoard x = ran(LANE, 0, 0, 0, SET, 1, 31, 0, MINUS, 2, 1, 0, SHUFFLE, 0, 0, 2);
        for (int lane = 0; lane < 32; lane++) due("turned round", x.whole(0, lane, 0), 31 - lane);
        LaneBoard y = ran(LANE, 0, 0, 0, SET, 1, 31, 0, MINUS, 2, 1, 0, SHUFFLE, 2, 0, 2);
        for (int lane = 0; lane < 32; lane++) due("onto the place", y.whole(0, lane, 2), 31 - lane);
        LaneBoard z = ran(LANE, 0, 0, 0, SET, 1, 1, 0, PLUS, 0, 0, 1, SHUFFLE, 0, 0, 0);
        for (int lane = 0; lane < 32; lane++) due("all three", z.whole(0, lane, 0), lane < 31 ? lane + 2 : -1);
    }

    /** "43 STOP: the LANE ENDS." */
    private static void stop() {
        LaneBoard x = board(STOP, 0, 0, 0, SET, 0, 1, 0);
        x.launch(1, 1, 0);
        due("one act", x.step(400), 1);
        due("ended", x.group(0, 4), 4);
        due("all its lanes", x.group(0, 3), 32);
        due("at the end", x.group(0, 0), 2);
        due("no more", x.whole(0, 0, 0), 0);
    }

    /** "14 wa = LANE's number (0 .. 31). 15 its GROUP's in the BLOCK. 16 its BLOCK's. 17 how many GROUPS a BLOCK has." */
    private static void numbersOfALane() {
        LaneBoard x = ran(board(LANE, 0, 0, 0, GROUP, 1, 0, 0, BLOCK, 2, 0, 0, GROUPS, 7, 0, 0), 6, 4, 0);
        for (int n = 0; n < 24; n++) {
            for (int lane = 0; lane < 32; lane += 31) {
                due("lane", x.whole(n, lane, 0), lane);
                due("group " + n, x.whole(n, lane, 1), n % 4);
                due("block", x.whole(n, lane, 2), n / 4);
                due("groups", x.whole(n, lane, 7), 4);
            }
        }
        LaneBoard y = ran(board(GROUP, 1, 0, 0, BLOCK, 2, 0, 0, GROUPS, 7, 0, 0), 6, 1, 0);
        due("the only group", y.whole(5, 0, 1), 0);
        due("the last block", y.whole(5, 0, 2), 5);
        due("one group", y.whole(5, 0, 7), 1);
    }

    private static int judged(int op, int a, int b, int c) {
        return board(STOP, 0, 0, 0, op, a, b, c, STOP, 0, 0, 0).judge();
    }

    /** "THE CODE is SOUND, if each ACT has an OP 0 .. 43" */
    private static void soundOps() {
        for (int op = 0; op <= 43; op++) due("op " + op, judged(op, 0, 0, 0), NONE);
        for (int op : new int[] {-1, 44, 45, 100, MIN, MAX, 36 + 256, 65536}) due("op " + op, judged(op, 0, 0, 0), 1);
    }

    /** "WHOLES 0 .. 7, REALS 0 .. 3, ROWS 0 .. 5, ACTS 0 .. THE END; what an OP does not need is not looked at." */
    private static void soundNeeds() {
        for (int op = 0; op <= 43; op++) {
            int[] most = {mostA(op), mostB(op), mostC(op)};
            for (int k = 0; k < 3; k++) {
                for (int v : new int[] {MIN, -2, -1, 0, 1, 3, 4, 5, 6, 7, 8, 9, 43, 90, 91, 256, MAX}) {
                    int[] abc = new int[3];
                    abc[k] = v;
                    boolean fine = most[k] < 0 || v >= 0 && v <= most[k];
                    due("op " + op + " with " + v + " as " + "abc".charAt(k), judged(op, abc[0], abc[1], abc[2]), fine ? NONE : 1);
                }
            }
        }
    }

    /** "It needs what stands in its line: 0, 14 to 17 a; 1, 18, 24, 38 to 40 a, b; ..." The greatest; -1: not needed. */
    private static int mostA(int op) {
        if (op >= NEW && op != BRANCH && op != ANY && op != ALL && op != COUNT && op != SHUFFLE) return -1;
        return op >= REAL && op <= F_DIVIDE || op == F_LOAD || op == F_STORE ? 3 : 7;
    }

    private static int mostB(int op) {
        if (op == BRANCH || op == JUMP) return 3;
        if (op >= LOAD && op <= ADD) return 5;
        if (op >= F_PLUS && op <= CUT) return 3;
        boolean whole = op >= MOVE && op <= EQUAL || op == REAL || op >= ANY && op <= SHUFFLE;
        return whole ? 7 : -1;
    }

    private static int mostC(int op) {
        if (op >= F_PLUS && op <= F_LESS) return 3;
        boolean whole = op >= PLUS && op <= EQUAL || op >= LOAD && op <= NEW || op == SHUFFLE;
        return whole ? 7 : -1;
    }

    /** "b of 0 is any int" */
    private static void soundAnyInt() {
        for (int v : new int[] {MIN, -1, 0, 8, MAX}) {
            due("set " + v, judged(SET, 7, v, v), NONE);
            due("w7", ran(SET, 7, v, 99).whole(0, 31, 7), v);
        }
    }

    /** ACTS are told by how many there are now: an ACT more makes a place behind THE END one that is there. */
    private static void soundActs() {
        LaneBoard x = board(JUMP, 0, 2, 0);
        due("not there", x.judge(), 0);
        due("no launch", x.launch(1, 1, 0), STATE);
        x.code(BRANCH, 0, 3, 0);
        due("now it is the end, but the next is not", x.judge(), 1);
        x.code(SET, 0, 0, 0);
        due("now all are", x.judge(), NONE);
        due("launch", x.launch(1, 1, 0), 1);
        LaneBoard y = board(JUMP, 0, 1, 0, 99, 0, 0, 0, 98, 0, 0, 0);
        due("the first of several", y.judge(), 1);
        due("none without acts", new LaneBoard().judge(), NONE);
    }

    private static void dueMeet(String what, int i, int want, int... acts) {
        due("meet: " + what, board(acts).meet(i), want);
    }

    /** "of the places other than it that are on all ways of THE CODE from it to THE END (THE END itself is one)" */
    private static void meets() {
        dueMeet("alone, back to itself", 0, 1, BRANCH, 0, 0, 0);
        dueMeet("alone, to the end", 0, 1, BRANCH, 0, 1, 0);
        dueMeet("over one", 0, 2, BRANCH, 0, 2, 0, SET, 0, 0, 0, SET, 0, 0, 0);
        dueMeet("to the next", 0, 1, BRANCH, 0, 1, 0, SET, 0, 0, 0);
        dueMeet("to the end, not to what only one way has", 0, 3, BRANCH, 0, 3, 0, SET, 0, 0, 0, SET, 0, 0, 0);
        dueMeet("stop in one arm", 0, 3, BRANCH, 0, 2, 0, STOP, 0, 0, 0, SET, 0, 0, 0);
        dueMeet("stop in both arms", 0, 3, BRANCH, 0, 2, 0, STOP, 0, 0, 0, STOP, 0, 0, 0);
        dueMeet("stop behind the meet", 0, 2, BRANCH, 0, 2, 0, SET, 0, 0, 0, STOP, 0, 0, 0, SET, 0, 0, 0);
        dueMeet("a loop's end", 1, 2, SET, 0, 0, 0, BRANCH, 0, 0, 0, SET, 0, 0, 0);
        dueMeet("a meet ahead of the branch", 2, 0, SET, 0, 0, 0, BRANCH, 1, 5, 0, BRANCH, 0, 4, 0, JUMP, 0, 0, 0,
            JUMP, 0, 0, 0);
        dueMeet("outer of two", 0, 5, BRANCH, 0, 5, 0, BRANCH, 1, 4, 0, SET, 0, 0, 0, JUMP, 0, 5, 0, SET, 0, 0, 0, SET, 0, 0, 0);
        dueMeet("inner of two", 1, 5, BRANCH, 0, 5, 0, BRANCH, 1, 4, 0, SET, 0, 0, 0, JUMP, 0, 5, 0, SET, 0, 0, 0, SET, 0, 0, 0);
        dueMeet("a fence is an act as others", 0, 2, BRANCH, 0, 2, 0, FENCE, 0, 0, 0, FENCE, 0, 0, 0);
        dueMeet("into an arm of its own", 0, 2, BRANCH, 0, 2, 0, JUMP, 0, 2, 0, SET, 0, 0, 0);
    }

    /** "THE END, if no way leads there"; a way that leads nowhere is none of those to THE END. */
    private static void meetsWithoutAWay() {
        dueMeet("round and round", 0, 3, BRANCH, 0, 0, 0, JUMP, 0, 0, 0, SET, 0, 0, 0);
        dueMeet("both ways to one act that turns for ever", 0, 2, BRANCH, 0, 1, 0, JUMP, 0, 1, 0);
        dueMeet("two that turn for ever", 0, 3, BRANCH, 0, 2, 0, JUMP, 0, 1, 0, JUMP, 0, 2, 0);
        dueMeet("one arm turns for ever", 0, 2, BRANCH, 0, 2, 0, JUMP, 0, 1, 0, SET, 0, 0, 0, SET, 0, 0, 0);
        dueMeet("the other arm does", 0, 1, BRANCH, 0, 3, 0, SET, 0, 0, 0, STOP, 0, 0, 0, JUMP, 0, 3, 0);
        dueMeet("a branch that no way comes to", 1, 3, STOP, 0, 0, 0, BRANCH, 0, 3, 0, SET, 0, 0, 0, SET, 0, 0, 0);
    }

    /** THE MEET at each place of the longest CODE, THE END among them. */
    private static void meetsFarOff() {
        for (int target = 1; target <= 90; target++) {
            LaneBoard x = board(BRANCH, 0, target, 0);
            for (int i = 1; i < 90; i++) x.code(SET, 0, i, 0);
            due("meet at " + target, x.meet(0), target);
        }
        LaneBoard x = new LaneBoard();
        for (int i = 0; i < 90; i++) x.code(BRANCH, 0, 89 - i, 0);
        for (int i = 0; i < 89; i++) due("all branches: " + i, x.meet(i), i < 45 ? 89 - i : i + 1);
        due("the last", x.meet(89), 90);
    }

    /** Whether a way leads from an ACT to THE END that does not come by another place. */
    private static boolean leads(int[] acts, int from, int without) {
        int end = acts.length / 4, count = 1;
        boolean[] seen = new boolean[end + 1];
        int[] found = new int[end + 1];
        found[0] = from;
        seen[from] = true;
        for (int k = 0; k < count; k++) {
            int i = found[k];
            if (i == end) return true;
            int op = acts[4 * i], b = acts[4 * i + 2];
            int[] next = op == BRANCH ? new int[] {i + 1, b} : new int[] {op == JUMP ? b : op == STOP ? end : i + 1};
            for (int n : next) {
                if (n == without || seen[n]) continue;
                seen[n] = true;
                found[count++] = n;
            }
        }
        return false;
    }

    private static boolean onAllWays(int[] acts, int from, int place) {
        return leads(acts, from, -1) && !leads(acts, from, place);
    }

    /** THE MEET as its words say it: of the places on all ways that from which all others are on all ways, too. */
    private static int meetByWords(int[] acts, int i) {
        int end = acts.length / 4;
        if (!leads(acts, i, -1)) return end;
        for (int place = 0; place < end; place++) {
            if (place == i || !onAllWays(acts, i, place)) continue;
            boolean first = true;
            for (int other = 0; other < end && first; other++) {
                if (other != i && other != place && onAllWays(acts, i, other)) first = onAllWays(acts, place, other);
            }
            if (first) return place;
        }
        return end;
    }

    /** "that which comes first on them": CODES of many shapes, each BRANCH by the words themselves. */
    private static void meetsByTheirWords() {
        int h = 12345;
        for (int run = 0; run < 300; run++) {
            int n = run < 200 ? 3 + run % 12 : run < 290 ? 20 + run % 20 : 90, far = 2 + run % 9;
            int[] acts = new int[4 * n];
            for (int i = 0; i < n; i++) {
                h = h * 1103515245 + 12345;
                int kind = (h >>> 16) % 10;
                acts[4 * i] = kind < 4 ? BRANCH : kind == 4 ? JUMP : kind == 5 && run % 3 == 0 ? STOP : SET;
                h = h * 1103515245 + 12345;
                int to = i - far / 2 + (h >>> 16) % (2 * far);
                acts[4 * i + 2] = Math.max(0, Math.min(n, run % 4 == 0 ? (h >>> 16) % (n + 1) : to));
            }
            LaneBoard x = board(acts);
            for (int i = 0; i < n; i++) {
                if (acts[4 * i] == BRANCH) due("run " + run + ", meet of " + i, x.meet(i), meetByWords(acts, i));
            }
        }
    }

    /** THE MEET is of THE CODE as it is now: with ACTS more, wiped and written anew. */
    private static void meetsOfOtherCode() {
        LaneBoard x = board(BRANCH, 0, 0, 0, BRANCH, 0, 0, 0);
        due("of two", x.meet(0), 1);
        due("of two", x.meet(1), 2);
        x.wipe();
        x.code(BRANCH, 0, 1, 0);
        due("the second is gone", x.meet(1), OUTSIDE);
        due("of one", x.meet(0), 1);
        add(x, SET, 0, 0, 0, BRANCH, 0, 4, 0);
        due("the third's way is not there yet", x.meet(2), STATE);
        x.code(SET, 0, 0, 0);
        due("now it is the end", x.meet(2), 4);
        add(x, SET, 0, 0, 0);
        due("now it is an act", x.meet(2), 4);
        x.wipe();
        add(x, BRANCH, 0, 2, 0, STOP, 0, 0, 0, SET, 0, 0, 0);
        due("wiped and written anew", x.meet(0), 3);
        x.wipe();
        add(x, BRANCH, 0, 2, 0, SET, 0, 0, 0, SET, 0, 0, 0);
        due("and once more, as long", x.meet(0), 2);
        x.launch(1, 1, 0);
        finish(x);
        x.code(JUMP, 0, 0, 0);
        due("no way leads to the end now", x.meet(0), 4);
    }
}
