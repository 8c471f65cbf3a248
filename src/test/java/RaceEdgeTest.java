/** The sentences of the document's part 4, RACES, that name an edge; each stands above its test. */
public final class RaceEdgeTest extends Check {
    public static void main(String[] args) {
        ofOneAct();
        ofTwoGroups();
        ofTwoBlocks();
        ofOneCell();
        byTwoLanes();
        ofDifferentActs();
        ofOneActDoneTwice();
        atDifferentTimes();
        atOneTime();
        timesOfBlocks();
        ofAFailedLane();
        twentyAreTold();
        earliestFirst();
        laterTouch();
        whatIsTold();
        behindTheThousandth();
        atTheThousandth();
        notTouches();
        anew();
        end();
    }

    private static LaneBoard withRows(int... acts) {
        LaneBoard x = board(acts);
        x.row(0, 2, 64);
        x.row(3, 3, 64);
        return x;
    }

    /** The ROW an OP goes to: 27 and 28 need floats. */
    private static int rowOf(int op) {
        return op == F_LOAD || op == F_STORE ? 3 : 0;
    }

    private static boolean reads(int op) {
        return op == LOAD || op == F_LOAD || op == S_LOAD;
    }

    private static boolean adds(int op) {
        return op == ADD || op == S_ADD;
    }

    private static boolean toOneCell(int op, int other) {
        return op >= S_LOAD == other >= S_LOAD && rowOf(op) == rowOf(other);
    }

    /** "by two LANES, one of them at least writing (26, 28, 29, 31, 32), not both by an ADD": 32 LANES, one cell. */
    private static void ofOneAct() {
        for (int op = LOAD; op <= S_ADD; op++) {
            LaneBoard x = ran(withRows(op, 0, rowOf(op), 7), 1, 1, 1);
            due("pairs by op " + op, x.told(12), reads(op) || adds(op) ? 0 : 32 * 31 / 2);
            due("touches by op " + op, x.told(13), 32);
        }
    }

    /** LANE 0 of each of two GROUPS TOUCHES place 0: the first does op, the second the other one. */
    private static int pairsOf(int blocks, int groups, int op, int other) {
        int number = blocks > 1 ? BLOCK : GROUP;
        LaneBoard x = withRows(LANE, 0, 0, 0, BRANCH, 0, 7, 0, number, 1, 0, 0, BRANCH, 1, 6, 0, op, 2, rowOf(op), 7,
            STOP, 0, 0, 0, other, 2, rowOf(other), 7);
        ran(x, blocks, groups, 1);
        due("two touches", x.told(13), 2);
        return x.told(12);
    }

    /** The same of each two OPS by two GROUPS of one BLOCK. */
    private static void ofTwoGroups() {
        for (int op = LOAD; op <= S_ADD; op++) {
            for (int other = LOAD; other <= S_ADD; other++) {
                boolean race = toOneCell(op, other) && !(reads(op) && reads(other)) && !(adds(op) && adds(other));
                due("ops " + op + ", " + other, pairsOf(1, 2, op, other), race ? 1 : 0);
            }
        }
    }

    /** "of one cell of a ROW, or of a BLOCK's shared cells": each BLOCK has its own shared cells, but all have the ROWS. */
    private static void ofTwoBlocks() {
        for (int op = LOAD; op <= S_ADD; op++) {
            for (int other = LOAD; other <= S_ADD; other++) {
                boolean race = toOneCell(op, other) && !(reads(op) && reads(other)) && !(adds(op) && adds(other));
                due("ops " + op + ", " + other, pairsOf(2, 1, op, other), race && op < S_LOAD ? 1 : 0);
            }
        }
    }

    /** "of one cell": neighbours are none, and place 0 of a ROW is not that of another, nor a shared one. */
    private static void ofOneCell() {
        LaneBoard x = ran(withRows(LANE, 0, 0, 0, STORE, 0, 0, 0, F_STORE, 0, 3, 0, S_STORE, 0, 0, 0), 1, 1, 32);
        due("each lane its own", x.told(12), 0);
        due("touches", x.told(13), 96);
        // Of two LANES of one ACT: both to place 63.
        LaneBoard y = withRows(SET, 1, 63, 0, LANE, 0, 0, 0, SET, 2, 2, 0, LESS, 2, 0, 2, BRANCH, 2, 6, 0, STOP, 0, 0, 0,
            STORE, 0, 0, 1);
        ran(y, 1, 1, 0);
        due("the last cell", y.told(12), 1);
        due("its place", y.race(0, 7), 63);
    }

    /** "by two LANES": a LANE races not with itself, whatever it does. */
    private static void byTwoLanes() {
        LaneBoard x = withRows(LANE, 0, 0, 0, STORE, 0, 0, 0, LOAD, 1, 0, 0, STORE, 0, 0, 0, ADD, 1, 0, 0, S_STORE, 0, 0, 0,
            S_LOAD, 1, 0, 0);
        ran(x, 1, 1, 32);
        due("none", x.told(12), 0);
        due("touches", x.told(13), 6 * 32);
    }

    /** "that nothing orders: they are of one GROUP, and of different ACTS done" */
    private static void ofDifferentActs() {
        // LANE 0 stores in one arm, LANE 1 in the other; the others END.
        LaneBoard x = withRows(LANE, 0, 0, 0, SET, 1, 2, 0, LESS, 2, 0, 1, BRANCH, 2, 5, 0, STOP, 0, 0, 0, BRANCH, 0, 8, 0,
            STORE, 0, 0, 7, STOP, 0, 0, 0, STORE, 0, 0, 7);
        ran(x, 1, 1, 0);
        due("touches", x.told(13), 2);
        due("no race", x.told(12), 0);
    }

    /** ACTS done, not ACTS: the same ACT, done once by LANE 0 and once by LANE 1. */
    private static void ofOneActDoneTwice() {
        LaneBoard x = withRows(LANE, 0, 0, 0, SET, 4, 1, 0, SET, 5, 2, 0, EQUAL, 2, 0, 1, BRANCH, 2, 6, 0, JUMP, 0, 7, 0,
            STORE, 0, 0, 7, PLUS, 1, 1, 4, LESS, 3, 1, 5, BRANCH, 3, 3, 0);
        ran(x, 1, 1, 0);
        due("over", x.told(0), 2);
        due("touches", x.told(13), 2);
        due("no race", x.told(12), 0);
    }

    /** "or of one BLOCK, at different TIMES of it" */
    private static void atDifferentTimes() {
        for (int blocks = 1; blocks <= 2; blocks++) {
            // LANE 0 of the first GROUP stores ahead of the FENCE, that of the second behind it.
            LaneBoard x = withRows(LANE, 0, 0, 0, BRANCH, 0, 8, 0, blocks == 1 ? GROUP : BLOCK, 1, 0, 0, BRANCH, 1, 6, 0,
                STORE, 1, 0, 7, JUMP, 0, 6, 0, FENCE, 0, 0, 0, BRANCH, 1, 9, 0, STOP, 0, 0, 0, STORE, 1, 0, 7);
            // BRANCH at 1 goes to a STOP: all but LANE 0 END there.
            x.launch(blocks, 3 - blocks, 0);
            finish(x);
            due("touches", x.told(13), 2);
            due("blocks " + blocks, x.told(12), blocks - 1);
        }
    }

    /** Both behind the same FENCE: no FENCE is between them. */
    private static void atOneTime() {
        for (int fences = 0; fences <= 2; fences++) {
            LaneBoard x = withRows(LANE, 0, 0, 0, BRANCH, 0, 2 + fences + 1, 0);
            for (int k = 0; k < fences; k++) x.code(FENCE, 0, 0, 0);
            x.code(STORE, 1, 0, 7);
            ran(x, 1, 2, 0);
            due("with " + fences + " fences ahead", x.told(12), 1);
        }
    }

    /** TIMES are of one BLOCK: those of another order nothing, alike or not. */
    private static void timesOfBlocks() {
        for (int fences = 0; fences <= 2; fences++) {
            // BLOCK 1 passes so many FENCES ahead of its store.
            LaneBoard x = withRows(LANE, 0, 0, 0, BRANCH, 0, 6 + fences, 0, BLOCK, 1, 0, 0, BRANCH, 1, 5, 0, JUMP, 0, 5 + fences, 0);
            for (int k = 0; k < fences; k++) x.code(FENCE, 0, 0, 0);
            x.code(STORE, 1, 0, 7);
            ran(x, 2, 1, 0);
            due("touches", x.told(13), 2);
            due("with " + fences + " fences", x.told(12), 1);
        }
    }

    /** "of a LANE that did not FAIL": those ahead of it TOUCH, it does not, and those behind it neither. */
    private static void ofAFailedLane() {
        // Places 0, 0, 0, then none such.
        LaneBoard x = withRows(LANE, 0, 0, 0, SET, 1, 3, 0, LESS, 2, 0, 1, SET, 3, 1, 0, XOR, 2, 2, 3, SET, 3, 99, 0, TIMES, 2, 2, 3,
            STORE, 0, 0, 2);
        ran(x, 1, 1, 0);
        due("failed", x.told(9), 3);
        due("lane 3", x.told(7), 3);
        due("three touches", x.told(13), 3);
        due("three pairs", x.told(12), 3);
        LaneBoard y = ran(withRows(SET, 1, -1, 0, STORE, 0, 0, 1), 1, 1, 0);
        due("no touch", y.told(13), 0);
    }

    /** So many LANES store to one cell at once. */
    private static LaneBoard storing(int lanes) {
        LaneBoard x = withRows(LANE, 0, 0, 0, SET, 1, lanes, 0, LESS, 2, 0, 1, BRANCH, 2, 5, 0, STOP, 0, 0, 0, STORE, 0, 0, 7);
        return ran(x, 1, 1, 0);
    }

    /** "Each such pair counts ...; the first 20 are told" */
    private static void twentyAreTold() {
        for (int lanes = 1; lanes <= 8; lanes++) {
            LaneBoard x = storing(lanes);
            int pairs = lanes * (lanes - 1) / 2, told = Math.min(20, pairs);
            due("pairs of " + lanes, x.told(12), pairs);
            if (told > 0) due("the last told", x.race(told - 1, 0), 0);
            for (int i = told; i < 22; i++) due("no such", x.race(i, 0), UNKNOWN);
        }
    }

    /** "of one TOUCH by its earlier ones, the earliest first" */
    private static void earliestFirst() {
        LaneBoard x = storing(8);
        int i = 0;
        for (int later = 1; later < 8; later++) {
            for (int earlier = 0; earlier < later && i < 20; earlier++, i++) {
                due("race " + i + ", earlier", x.race(i, 1), earlier);
                due("race " + i + ", later", x.race(i, 4), later);
            }
        }
    }

    /** "Each such pair counts, when its later TOUCH comes (of one ACT by LANES)" */
    private static void laterTouch() {
        // Two cells in turn: the pairs come by the later LANE, not by cells.
        LaneBoard x = withRows(LANE, 0, 0, 0, SET, 1, 1, 0, AND, 2, 0, 1, STORE, 0, 0, 2);
        x.launch(1, 2, 0);
        x.rule(2, 0);
        x.step(3);
        due("none yet", x.told(12), 0);
        x.step(1);
        due("of one act", x.told(12), 2 * 16 * 15 / 2);
        int[][] want = {{0, 2, 0}, {1, 3, 1}, {0, 4, 0}, {2, 4, 0}, {1, 5, 1}, {3, 5, 1}, {0, 6, 0}};
        for (int i = 0; i < want.length; i++) {
            due("earlier", x.race(i, 1), want[i][0]);
            due("later", x.race(i, 4), want[i][1]);
            due("place", x.race(i, 7), want[i][2]);
            due("group", x.race(i, 0), 1);
        }
        finish(x);
        due("and those of the other group", x.told(12), 2 * 32 * 31 / 2);
    }

    /** "0 the earlier one's GROUP, 1 LANE, 2 ACT, 3 to 5 the later one's; 6 the ROW, NONE: shared; 7 the place" */
    private static void whatIsTold() {
        // LANE 3 of GROUP 1 loads ROW 3's place 60 in ACT 10, then LANE 3 of GROUP 0 stores there in ACT 8.
        LaneBoard x = withRows(LANE, 0, 0, 0, SET, 1, 3, 0, EQUAL, 2, 0, 1, BRANCH, 2, 5, 0, STOP, 0, 0, 0, SET, 1, 60, 0,
            GROUP, 4, 0, 0, BRANCH, 4, 10, 0, F_STORE, 3, 3, 1, STOP, 0, 0, 0, F_LOAD, 3, 3, 1);
        x.launch(1, 2, 0);
        x.rule(2, 0);
        finish(x);
        int[] want = {1, 3, 10, 0, 3, 8, 3, 60};
        for (int what = 0; what < 8; what++) due("of a row, " + what, x.race(0, what), want[what]);
        due("one pair", x.told(12), 1);
        LaneBoard y = board(LANE, 0, 0, 0, SET, 1, 30, 0, LESS, 2, 0, 1, BRANCH, 2, 6, 0, SET, 1, 63, 0, S_STORE, 0, 0, 1);
        ran(y, 2, 1, 64);
        int[][] shared = {{0, 30, 5, 0, 31, 5, NONE, 63}, {1, 30, 5, 1, 31, 5, NONE, 63}};
        for (int i = 0; i < 2; i++) {
            for (int what = 0; what < 8; what++) due("of shared cells, " + what, y.race(i, what), shared[i][what]);
        }
        due("of each block one", y.told(12), 2);
        LaneBoard z = ran(board(S_STORE, 0, 0, 7), 1, 1, 1);
        due("shared cell 0 is of no row", z.race(0, 6), NONE);
        due("its place", z.race(0, 7), 0);
        LaneBoard w = board(SET, 1, 255, 0, STORE, 0, 5, 1);
        w.row(5, 0, 256);
        ran(w, 1, 1, 1);
        due("the last row", w.race(0, 6), 5);
        due("its last cell", w.race(0, 7), 255);
    }

    /** "TOUCHES that are behind the 1000th of a LAUNCH are counted, but looked at no more." */
    private static void behindTheThousandth() {
        // 31 loads by 32 LANES are 992 TOUCHES, then 32 LANES store to one cell: 8 of them are looked at.
        for (int loads = 30; loads <= 32; loads++) {
            LaneBoard x = withRows();
            for (int k = 0; k < loads; k++) x.code(LOAD, 1, 0, 6);
            add(x, SET, 1, 9, 0, STORE, 0, 0, 1);
            ran(x, 1, 1, 0);
            int seen = Math.max(0, Math.min(32, 1000 - 32 * loads));
            due("touches", x.told(13), 32 * loads + 32);
            due("pairs after " + 32 * loads, x.told(12), seen * (seen - 1) / 2);
        }
    }

    /** A TOUCH behind the 1000th makes no pair as the later one, and none as the earlier one. */
    private static void atTheThousandth() {
        for (int ahead = 998; ahead <= 1000; ahead++) {
            // GROUP 0 loads so often, by 32 LANES and by LANE 0; then LANE 0 of two GROUPS store to one cell.
            LaneBoard x = withRows(GROUP, 7, 0, 0, LANE, 0, 0, 0);
            int at = 2, full = ahead / 32, single = ahead - 32 * full;
            x.code(BRANCH, 7, at + 1 + full + 1, 0);
            for (int k = 0; k < full; k++) x.code(LOAD, 1, 0, 6);
            x.code(SET, 5, 1, 0);
            int after = at + 1 + full + 1;
            x.code(BRANCH, 0, after + 1 + single + 1 + 2, 0);
            x.code(BRANCH, 7, after + 2 + single, 0);
            for (int k = 0; k < single; k++) x.code(LOAD, 1, 0, 6);
            add(x, SET, 1, 9, 0, STORE, 0, 0, 1);
            due("sound", x.judge(), NONE);
            x.launch(1, 2, 0);
            x.rule(1, 0);
            finish(x);
            due("touches", x.told(13), ahead + 2);
            due("pairs with " + ahead + " ahead", x.told(12), ahead == 998 ? 1 : 0);
        }
    }

    /** TOUCHES are "by 25 to 32": OWN cells, and all others, are none. */
    private static void notTouches() {
        for (int op = 0; op <= 43; op++) {
            if (op == JUMP) continue;
            LaneBoard x = withRows(SET, 1, 1, 0, REAL, 1, 1, 0, op, 0, rowOf(op) == 3 ? 3 : 0, 1, SET, 2, 1, 0);
            x.launch(1, 1, 2);
            x.step(3);
            due("touches by op " + op, x.told(13), op >= LOAD && op <= S_ADD ? 32 : 0);
        }
    }

    /** A new LAUNCH has TOUCHES and RACES of its own. */
    private static void anew() {
        LaneBoard x = storing(8);
        x.launch(1, 1, 0);
        due("no pairs", x.told(12), 0);
        due("no touches", x.told(13), 0);
        due("none told", x.race(0, 0), UNKNOWN);
        finish(x);
        due("its own pairs", x.told(12), 28);
        due("its own touches", x.told(13), 8);
        LaneBoard y = storing(2);
        for (int k = 0; k < 3; k++) ran(y, 1, 1, 0);
        due("earlier launches do not count", y.told(12), 1);
    }
}
