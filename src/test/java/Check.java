/** What the tests of edges share: answers that are due, the OPS by name, boards with ACTS, whole LAUNCHES. */
class Check {
    static final int NONE = LaneBoard.NONE, UNKNOWN = LaneBoard.UNKNOWN, OUTSIDE = LaneBoard.OUTSIDE;
    static final int STATE = LaneBoard.STATE, FULL = LaneBoard.FULL;
    static final int MIN = Integer.MIN_VALUE, MAX = Integer.MAX_VALUE;

    static final int SET = 0, MOVE = 1, PLUS = 2, MINUS = 3, TIMES = 4, DIVIDE = 5, REST = 6, AND = 7, OR = 8, XOR = 9;
    static final int LEFT = 10, RIGHT = 11, LESS = 12, EQUAL = 13, LANE = 14, GROUP = 15, BLOCK = 16, GROUPS = 17;
    static final int REAL = 18, F_PLUS = 19, F_MINUS = 20, F_TIMES = 21, F_DIVIDE = 22, F_LESS = 23, CUT = 24;
    static final int LOAD = 25, STORE = 26, F_LOAD = 27, F_STORE = 28, ADD = 29;
    static final int S_LOAD = 30, S_STORE = 31, S_ADD = 32, O_LOAD = 33, O_STORE = 34, NEW = 35;
    static final int BRANCH = 36, JUMP = 37, ANY = 38, ALL = 39, COUNT = 40, SHUFFLE = 41, FENCE = 42, STOP = 43;

    private static int wrong = 0;
    private static int asked = 0;

    static void due(String what, long got, long want) {
        asked++;
        if (got == want) return;
        wrong++;
        System.out.println(what + " answered " + got + ", due is " + want);
    }

    static void dueF(String what, float got, float want) {
        asked++;
        if (got == want) return;
        wrong++;
        System.out.println(what + " answered " + got + ", due is " + want);
    }

    static void dueText(String what, String got, String want) {
        asked++;
        if (got.equals(want)) return;
        wrong++;
        System.out.println(what + " is\n  " + got + "\ndue is\n  " + want);
    }

    static void end() {
        System.out.println(wrong == 0 ? asked + " answers are as due" : wrong + " answers are not as due");
        if (wrong != 0) System.exit(1);
    }

    /** A new board with ACTS, four numbers each. */
    static LaneBoard board(int... acts) {
        LaneBoard x = new LaneBoard();
        add(x, acts);
        return x;
    }

    static void add(LaneBoard x, int... acts) {
        for (int i = 0; i < acts.length; i += 4) x.code(acts[i], acts[i + 1], acts[i + 2], acts[i + 3]);
    }

    /** Until the LAUNCH goes on no more: how many TICKS. */
    static int finish(LaneBoard x) {
        int ticks = 0;
        for (int k = 0; k < 5; k++) ticks += x.step(400);
        return ticks;
    }

    /** A LAUNCH, till it goes on no more. */
    static LaneBoard ran(LaneBoard x, int blocks, int groups, int shared) {
        x.launch(blocks, groups, shared);
        finish(x);
        return x;
    }

    /** Of one GROUP. */
    static LaneBoard ran(int... acts) {
        return ran(board(acts), 1, 1, 0);
    }
}
