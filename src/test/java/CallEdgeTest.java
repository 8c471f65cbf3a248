import java.util.function.ToIntFunction;

/** The sentences of the promises that name an edge, call by call, and the order in which calls refuse. */
public final class CallEdgeTest extends Check {
    public static void main(String[] args) {
        newObject();
        refusedOfANewOne();
        refusedWhileItGoesOn();
        refusedWhenItIsOver();
        refusedWithoutSoundCode();
        refusedWhenFull();
        codeAndStates();
        wipeAndStates();
        rowAndStates();
        judge();
        meet();
        row();
        put();
        putWhileItGoesOn();
        cellAndReal();
        maybeAsARefusal();
        launch();
        rule();
        step();
        toldWithoutALaunch();
        group();
        way();
        lanes();
        sharedOfBlocks();
        race();
        alone();
        aloneByItself();
        aloneFailures();
        aloneSpent();
        left();
        leftBeforeOne();
        leftStays();
        differ();
        differAsNumbers();
        differTillItGoesOnNoMore();
        other();
        keep();
        back();
        backIsWhole();
        backOfAllThereIs();
        backOfTouches();
        backStays();
        digest();
        end();
    }

    // ---- the order of refusals; "then nothing changes"

    /** All that can be asked of a board, with few enough calls for two of them and what comes ahead: 512 are promised. */
    private static String allOf(LaneBoard x) {
        StringBuilder s = new StringBuilder();
        s.append(x.judge()).append(' ').append(x.digest());
        for (int what = 0; what < 14; what++) s.append(' ').append(x.told(what));
        for (int n = 0; n < 2; n++) for (int what = 0; what < 7; what++) s.append(' ').append(x.group(n, what));
        for (int i = 0; i < 3; i++) for (int what = 0; what < 3; what++) s.append(' ').append(x.way(0, i, what));
        for (int i = 0; i < 2; i++) s.append(' ').append(x.shared(0, i)).append(' ').append(x.own(1, 31, 3 * i - 1));
        for (int i = 0; i < 4; i++) s.append(' ').append(x.float0(0, 9, i)).append(' ').append(x.other(i));
        for (int what = 0; what < 8; what++) s.append(' ').append(x.race(1, what));
        for (int which = 0; which < 9; which++) s.append(' ').append(x.left(which, 1));
        for (int g = 0; g < 6; g++) s.append(' ').append(x.real(g, 1)).append(' ').append(x.cell(g, 4));
        return s.toString();
    }

    private static void refused(String what, LaneBoard x, ToIntFunction<LaneBoard> call, int want) {
        String before = allOf(x);
        due(what, call.applyAsInt(x), want);
        dueText(what + ": then nothing changes", allOf(x), before);
    }

    /** A row of calls with the answer of each, on boards that are each made anew. */
    private interface Maker {
        LaneBoard make();
    }

    private static void numbersRefused(String when, Maker maker, boolean launched) {
        for (int g : new int[] {MIN, -1, 6, MAX}) {
            refused(when + "row", maker.make(), x -> x.row(g, 9, 999), UNKNOWN);
            refused(when + "put", maker.make(), x -> x.put(g, -9, 0), UNKNOWN);
            refused(when + "cell", maker.make(), x -> x.cell(g, -9), UNKNOWN);
            refused(when + "real", maker.make(), x -> (int) x.real(g, 0), 0);
        }
        for (int v : new int[] {MIN, -1, 4, MAX}) {
            refused(when + "row, sort", maker.make(), x -> x.row(0, v, 1), OUTSIDE);
            refused(when + "row, sort, missing", maker.make(), x -> x.row(0, v, NONE), OUTSIDE);
            refused(when + "rule", maker.make(), x -> x.rule(v, 0), OUTSIDE);
            refused(when + "differ", maker.make(), x -> x.differ(v, 0), OUTSIDE);
            refused(when + "other", maker.make(), x -> x.other(v), OUTSIDE);
        }
        for (int v : new int[] {MIN, -2, 257, MAX}) refused(when + "row, n", maker.make(), x -> x.row(0, 0, v), OUTSIDE);
        for (int v : new int[] {MIN, -1, 401, MAX}) refused(when + "step", maker.make(), x -> x.step(v), OUTSIDE);
        for (int v : new int[] {MIN, -1, 14, MAX}) refused(when + "told", maker.make(), x -> x.told(v), OUTSIDE);
        for (int v : new int[] {MIN, -1, 9, MAX}) refused(when + "left", maker.make(), x -> x.left(v, 0), OUTSIDE);
        for (int v : new int[] {MIN, -1, 256, MAX}) refused(when + "left, place", maker.make(), x -> x.left(2, v), OUTSIDE);
        for (int v : new int[] {MIN, -1, 91, MAX}) refused(when + "meet", maker.make(), x -> x.meet(v), OUTSIDE);
        for (int v : new int[] {MIN, 0, 7, MAX}) refused(when + "launch", maker.make(), x -> x.launch(v, 1, 0), OUTSIDE);
        for (int v : new int[] {MIN, 0, 5, MAX}) refused(when + "launch", maker.make(), x -> x.launch(1, v, 0), OUTSIDE);
        for (int v : new int[] {MIN, -1, 65, MAX}) refused(when + "launch", maker.make(), x -> x.launch(1, 1, v), OUTSIDE);
        for (int v : new int[] {MIN, -1, 24, MAX}) {
            refused(when + "group", maker.make(), x -> x.group(v, -9), UNKNOWN);
            refused(when + "way", maker.make(), x -> x.way(v, 0, -9), UNKNOWN);
            refused(when + "whole", maker.make(), x -> x.whole(v, 0, -9), UNKNOWN);
            refused(when + "own", maker.make(), x -> x.own(v, 0, -9), UNKNOWN);
            refused(when + "alone", maker.make(), x -> x.alone(v, 0), UNKNOWN);
            refused(when + "shared", maker.make(), x -> x.shared(v, -9), UNKNOWN);
            refused(when + "race", maker.make(), x -> x.race(v, -9), UNKNOWN);
        }
        for (int v : new int[] {MIN, -1, 32, MAX}) {
            refused(when + "whole, lane", maker.make(), x -> x.whole(0, v, -9), UNKNOWN);
            refused(when + "own, lane", maker.make(), x -> x.own(0, v, -9), UNKNOWN);
            refused(when + "alone, lane", maker.make(), x -> x.alone(0, v), UNKNOWN);
            refused(when + "float0, lane", maker.make(), x -> (int) x.float0(0, v, 0), 0);
        }
        for (int v : new int[] {MIN, -1, 64, MAX}) refused(when + "way, i", maker.make(), x -> x.way(0, v, -9), UNKNOWN);
        int second = launched ? OUTSIDE : UNKNOWN;
        for (int v : new int[] {MIN, -2, 16, MAX}) {
            refused(when + "group, what", maker.make(), x -> x.group(0, v), second);
            refused(when + "whole, i", maker.make(), x -> x.whole(0, 0, v), second);
            refused(when + "own, i", maker.make(), x -> x.own(0, 0, v), second);
            refused(when + "shared, i", maker.make(), x -> x.shared(0, v == 16 ? 64 : v), second);
            refused(when + "race, what", maker.make(), x -> x.race(0, v), second);
            refused(when + "float0, i", maker.make(), x -> (int) x.float0(0, 0, v), 0);
        }
    }

    /** "No ACTS, all ROWS missing, no LAUNCH." */
    private static void newObject() {
        LaneBoard x = new LaneBoard();
        due("judge", x.judge(), NONE);
        due("meet", x.meet(0), OUTSIDE);
        due("group", x.group(0, 0), UNKNOWN);
        due("way", x.way(0, 0, 0), UNKNOWN);
        due("whole", x.whole(0, 0, 0), UNKNOWN);
        dueF("float0", x.float0(0, 0, 0), 0);
        due("own", x.own(0, 0, NONE), UNKNOWN);
        due("shared", x.shared(0, 0), UNKNOWN);
        due("race", x.race(0, 0), UNKNOWN);
        due("alone", x.alone(0, 0), UNKNOWN);
        for (int g = 0; g < 6; g++) {
            due("cell", x.cell(g, 0), UNKNOWN);
            dueF("real", x.real(g, 0), 0);
            due("put", x.put(g, 0, 1), UNKNOWN);
        }
        for (int what = 0; what < 4; what++) due("other", x.other(what), 0);
        due("wipe", x.wipe(), 0);
        due("an act", x.code(SET, 0, 0, 0), 1);
        LaneBoard y = board(SET, 0, 1, 0);
        y.row(0, 2, 1);
        ran(y, 1, 1, 0);
        due("boards know nothing of each other", x.told(0), 0);
        due("boards know nothing of each other", x.cell(0, 0), UNKNOWN);
    }

    private static void refusedOfANewOne() {
        numbersRefused("new: ", LaneBoard::new, false);
        for (int rule = 0; rule < 4; rule++) {
            int r = rule;
            refused("new: rule", new LaneBoard(), x -> x.rule(r, 5), STATE);
            refused("new: differ", new LaneBoard(), x -> x.differ(r, 5), STATE);
        }
        refused("new: step", new LaneBoard(), x -> x.step(0), STATE);
        refused("new: step", new LaneBoard(), x -> x.step(400), STATE);
        refused("new: keep", new LaneBoard(), LaneBoard::keep, STATE);
        refused("new: back", new LaneBoard(), LaneBoard::back, STATE);
    }

    /** Two GROUPS that go on, one of them parted, with RACES, shared and OWN cells; alone() and differ() were asked. */
    private static LaneBoard goingOn() {
        LaneBoard x = board(LANE, 0, 0, 0, SET, 1, 3, 0, S_STORE, 0, 0, 7, O_STORE, 0, 0, 1, STORE, 0, 2, 1, REAL, 3, 0, 0,
            BRANCH, 0, 9, 0, SET, 4, 1, 0, JUMP, 0, 7, 0, SET, 4, 2, 0, JUMP, 0, 9, 0);
        x.row(2, 2, 256);
        x.row(4, 3, 5);
        x.put(4, 4, 7);
        x.launch(1, 2, 64);
        x.differ(1, 0);
        x.alone(1, 3);
        x.step(21);
        return x;
    }

    private static LaneBoard over() {
        LaneBoard x = goingOn();
        finish(x);
        x.wipe();
        add(x, LANE, 0, 0, 0, SET, 1, 3, 0, S_STORE, 0, 0, 7, STORE, 0, 2, 1, STOP, 0, 0, 0, BRANCH, 0, 0, 0);
        return ran(x, 1, 2, 64);
    }

    private static void refusedWhileItGoesOn() {
        due("it goes on", goingOn().told(0), 1);
        due("parted", goingOn().group(0, 2), 3);
        due("with races", goingOn().race(19, 0), 0);
        numbersRefused("goes on: ", CallEdgeTest::goingOn, true);
        refused("code", goingOn(), x -> x.code(SET, 0, 0, 0), STATE);
        refused("an unsound code", goingOn(), x -> x.code(99, 9, 9, 9), STATE);
        refused("wipe", goingOn(), LaneBoard::wipe, STATE);
        for (int g = 0; g < 6; g++) {
            int row = g;
            refused("row", goingOn(), x -> x.row(row, 2, 256), STATE);
            refused("row, missing", goingOn(), x -> x.row(row, 2, NONE), STATE);
        }
        refused("put of a missing one", goingOn(), x -> x.put(0, 0, 1), UNKNOWN);
        refused("put", goingOn(), x -> x.put(2, 256, 1), OUTSIDE);
        refused("put", goingOn(), x -> x.put(2, -1, 1), OUTSIDE);
        refused("put", goingOn(), x -> x.put(4, 5, 1), OUTSIDE);
        refused("meet of another act", goingOn(), x -> x.meet(0), OUTSIDE);
        refused("back", goingOn(), LaneBoard::back, STATE);
        refused("group 2", goingOn(), x -> x.group(2, 0), UNKNOWN);
        refused("way 3", goingOn(), x -> x.way(0, 3, 0), UNKNOWN);
        refused("way's what", goingOn(), x -> x.way(0, 2, 3), OUTSIDE);
        refused("way's what", goingOn(), x -> x.way(0, 0, -1), OUTSIDE);
        refused("block 1", goingOn(), x -> x.shared(1, 0), UNKNOWN);
        refused("race 20", goingOn(), x -> x.race(20, 0), UNKNOWN);
        refused("own 4", goingOn(), x -> x.own(0, 0, 4), OUTSIDE);
        refused("left of a missing row", goingOn(), x -> x.left(0, 0), OUTSIDE);
        refused("left of own cells", goingOn(), x -> x.left(7, 4), OUTSIDE);
    }

    private static void refusedWhenItIsOver() {
        due("it is over", over().told(0), 2);
        due("with races", over().race(19, 0), 0);
        numbersRefused("over: ", CallEdgeTest::over, true);
        refused("no way", over(), x -> x.way(0, 0, 0), UNKNOWN);
        refused("back", over(), LaneBoard::back, STATE);
    }

    /** "STATE: THE CODE is not SOUND": judged behind the numbers. */
    private static void refusedWithoutSoundCode() {
        Maker unsound = () -> {
            LaneBoard x = over();
            x.code(SET, 8, 0, 0);
            return x;
        };
        due("the launch is gone", unsound.make().told(0), 0);
        refused("launch", unsound.make(), x -> x.launch(1, 1, 0), STATE);
        refused("launch", unsound.make(), x -> x.launch(6, 4, 64), STATE);
        refused("outside first", unsound.make(), x -> x.launch(0, 1, 0), OUTSIDE);
        refused("outside first", unsound.make(), x -> x.launch(1, 1, 65), OUTSIDE);
        refused("meet of a branch", unsound.make(), x -> x.meet(5), STATE);
        refused("outside first", unsound.make(), x -> x.meet(0), OUTSIDE);
        refused("the unsound one", unsound.make(), x -> x.meet(6), OUTSIDE);
        refused("the end", unsound.make(), x -> x.meet(7), OUTSIDE);
        LaneBoard y = board(BRANCH, 0, 2, 0);
        due("a branch that is not sound itself", y.meet(0), STATE);
        due("launch", y.launch(1, 1, 0), STATE);
        // A LAUNCH that is there stays, when another one is refused by its numbers.
        LaneBoard z = goingOn();
        int now = z.told(1);
        due("refused", z.launch(1, 5, 0), OUTSIDE);
        due("it is there", z.told(1), now);
        due("and goes on", z.step(1), 1);
    }

    /** "STATE: a LAUNCH goes on (1); FULL." */
    private static void refusedWhenFull() {
        Maker full = () -> {
            LaneBoard x = new LaneBoard();
            for (int i = 0; i < 90; i++) x.code(SET, 0, i, 0);
            x.launch(1, 2, 1);
            return x;
        };
        refused("it goes on", full.make(), x -> x.code(SET, 0, 0, 0), STATE);
        Maker done = () -> {
            LaneBoard x = full.make();
            finish(x);
            return x;
        };
        due("over", done.make().told(0), 2);
        refused("full, and the launch stays", done.make(), x -> x.code(SET, 0, 0, 0), FULL);
        LaneBoard x = done.make();
        due("wipe", x.wipe(), 90);
        due("room", x.code(SET, 0, 0, 0), 1);
    }

    // ---- code, rows

    /** Boards whose LAUNCH is OVER, STUCK, SPENT: STATES 2, 3, 4. */
    private static LaneBoard inState(int state) {
        LaneBoard x = state == 2 ? board(S_STORE, 0, 0, 7, DIVIDE, 0, 0, 7) : state == 3
            ? board(LANE, 0, 0, 0, S_STORE, 0, 0, 7, BRANCH, 0, 4, 0, FENCE, 0, 0, 0) : board(S_STORE, 0, 0, 7, JUMP, 0, 1, 0);
        if (state == 3) x.code(SET, 0, 1, 0);
        x.row(1, 2, 3);
        ran(x, 1, 1, 1);
        due("state", x.told(0), state);
        due("with races", x.told(12), 32 * 31 / 2);
        return x;
    }

    private static void dueGone(String what, LaneBoard x) {
        for (int i = 0; i < 14; i++) due(what + ": told " + i, x.told(i), i >= 6 && i <= 8 ? NONE : 0);
        due(what + ": group", x.group(0, 0), UNKNOWN);
        due(what + ": way", x.way(0, 0, 0), UNKNOWN);
        due(what + ": whole", x.whole(0, 0, 0), UNKNOWN);
        due(what + ": own", x.own(0, 0, NONE), UNKNOWN);
        due(what + ": shared", x.shared(0, 0), UNKNOWN);
        due(what + ": race", x.race(0, 0), UNKNOWN);
        due(what + ": rule", x.rule(0, 0), STATE);
        due(what + ": step", x.step(1), STATE);
        due(what + ": alone", x.alone(0, 0), UNKNOWN);
        due(what + ": differ", x.differ(0, 0), STATE);
        due(what + ": keep", x.keep(), STATE);
    }

    /** "An ACT more (a LAUNCH that does not go on is gone then): how many there are." */
    private static void codeAndStates() {
        for (int state = 2; state <= 4; state++) {
            LaneBoard x = inState(state);
            due("code", x.code(SET, 0, 0, 0), state == 3 ? 6 : 3);
            dueGone("code in state " + state, x);
            due("rows stay", x.cell(1, 2), 0);
        }
        LaneBoard y = new LaneBoard();
        due("any numbers are taken", y.code(MIN, MAX, MIN, MAX), 1);
        due("any numbers are taken", y.code(SET, 0, 0, 0), 2);
        due("the first is not sound", y.judge(), 0);
    }

    /** "There are no ACTS any more (a LAUNCH that does not go on is gone then): how many there were." */
    private static void wipeAndStates() {
        for (int state = 2; state <= 4; state++) {
            LaneBoard x = inState(state);
            due("wipe", x.wipe(), state == 3 ? 5 : 2);
            dueGone("wipe in state " + state, x);
            due("rows stay", x.cell(1, 2), 0);
            due("none is left", x.wipe(), 0);
            due("nothing to meet", x.meet(1), OUTSIDE);
            due("sound", x.judge(), NONE);
        }
        LaneBoard y = ran(new LaneBoard(), 1, 1, 0);
        due("over without acts", y.told(0), 2);
        due("none to wipe", y.wipe(), 0);
        dueGone("wiped without acts", y);
        LaneBoard z = new LaneBoard();
        z.launch(1, 1, 0);
        due("without acts it goes on till a tick", z.wipe(), STATE);
    }

    /** "a LAUNCH that does not go on is gone then: 1" */
    private static void rowAndStates() {
        for (int state = 2; state <= 4; state++) {
            for (int n : new int[] {NONE, 0, 256}) {
                LaneBoard x = inState(state);
                due("row", x.row(0, 0, n), 1);
                dueGone("row in state " + state, x);
                due("acts stay", x.wipe(), state == 3 ? 5 : 2);
            }
            LaneBoard y = inState(state);
            due("refused", y.row(0, 4, 0), OUTSIDE);
            due("it stays", y.told(0), state);
        }
    }

    /** "The first ACT that is not SOUND; NONE." */
    private static void judge() {
        LaneBoard x = new LaneBoard();
        for (int i = 0; i < 89; i++) x.code(SET, 0, 0, 0);
        due("89 sound ones", x.judge(), NONE);
        x.code(SET, 8, 0, 0);
        due("the 90th is not", x.judge(), 89);
        x.wipe();
        x.code(44, 0, 0, 0);
        x.code(SET, 8, 0, 0);
        due("the first of two", x.judge(), 0);
    }

    /** "THE MEET of ACT i. OUTSIDE: no such ACT, or no BRANCH" */
    private static void meet() {
        for (int op = 0; op <= 43; op++) {
            LaneBoard x = board(op, 0, 1, 0, BRANCH, 0, 0, 0);
            due("meet of op " + op, x.meet(0), op == BRANCH ? 1 : OUTSIDE);
            due("the branch behind it", x.meet(1), 2);
            due("the end", x.meet(2), OUTSIDE);
        }
        LaneBoard y = goingOn();
        due("while it goes on", y.meet(6), 11);
    }

    /** "ROW g becomes one of a SORT, n (0 .. 256) cells, all 0; with n = NONE it is missing (SORT is looked at)" */
    private static void row() {
        for (int sort = 0; sort < 4; sort++) {
            LaneBoard x = new LaneBoard();
            for (int n : new int[] {256, 1, 0, 256}) {
                due("row", x.row(5, sort, n), 1);
                due("the last cell", x.cell(5, n - 1), n > 0 ? 0 : OUTSIDE);
                due("none behind it", x.cell(5, n), OUTSIDE);
                for (int place = 0; place < n; place += 85) {
                    due("all 0", x.cell(5, place), 0);
                    x.put(5, place, 9);
                }
            }
            due("missing", x.row(5, sort, NONE), 1);
            due("missing", x.cell(5, 0), UNKNOWN);
            due("put", x.put(5, 0, 1), UNKNOWN);
            due("missing still", x.row(5, sort, NONE), 1);
            due("there again, all 0", x.row(5, sort, 2), 1);
            due("there again, all 0", x.cell(5, 0), 0);
        }
        LaneBoard y = new LaneBoard();
        y.row(0, 3, 2);
        y.put(0, 1, 16777217);
        y.row(0, 2, 2);
        due("of another sort: all 0", y.cell(0, 1), 0);
        y.put(0, 1, 16777217);
        due("an int now", y.cell(0, 1), 16777217);
        y.row(0, 3, 2);
        dueF("a float again: all 0", y.real(0, 1), 0);
    }

    /** "A cell of ROW g becomes v (its lowest bits; as a float): 1." */
    private static void put() {
        int[] v = {127, 128, -128, -129, 255, 256, 32767, 32768, -32769, 65535, 65536, MAX, MIN, 16777217};
        for (int value : v) {
            LaneBoard x = new LaneBoard();
            for (int sort = 0; sort < 4; sort++) {
                x.row(sort, sort, 256);
                due("put", x.put(sort, 255, value), 1);
                due("the one ahead stays", x.cell(sort, 254), 0);
            }
            due("byte of " + value, x.cell(0, 255), (byte) value);
            due("short of " + value, x.cell(1, 255), (short) value);
            due("int of " + value, x.cell(2, 255), value);
            dueF("float of " + value, x.real(3, 255), value);
            due("float of " + value + " cut", x.cell(3, 255), (int) (float) value);
        }
        LaneBoard y = new LaneBoard();
        y.row(0, 2, 0);
        due("none of no cells", y.put(0, 0, 1), OUTSIDE);
    }

    /** put() asks for no STATE: while a LAUNCH goes on the next ACT sees it, and a LAUNCH that is over stays. */
    private static void putWhileItGoesOn() {
        LaneBoard x = board(LOAD, 0, 0, 7, LOAD, 1, 0, 7);
        x.row(0, 2, 1);
        x.launch(1, 1, 0);
        due("put", x.put(0, 0, 5), 1);
        x.step(1);
        due("put", x.put(0, 0, 6), 1);
        finish(x);
        due("seen by the first", x.whole(0, 0, 0), 5);
        due("seen by the second", x.whole(0, 0, 1), 6);
        due("over", x.told(0), 2);
        due("put", x.put(0, 0, 7), 1);
        due("it is still there", x.told(0), 2);
        due("no touch", x.told(13), 64);
    }

    /** "What a cell of ROW g is (of floats cut towards 0, as OP 24)"; "The same as a float" */
    private static void cellAndReal() {
        // f0 = w0 / w1 into ROW 0.
        int[][] rows = {{1, 2, 0}, {-1, 2, 0}, {-7, 2, -3}, {7, 2, 3}, {MAX, 1, MAX}, {MIN, 1, MIN}, {1, 0, MAX}, {-1, 0, MIN}};
        for (int[] r : rows) {
            LaneBoard x = board(SET, 0, r[0], 0, REAL, 0, 0, 0, SET, 0, r[1], 0, REAL, 1, 0, 0, F_DIVIDE, 0, 0, 1, F_STORE, 0, 0, 7);
            x.row(0, 3, 1);
            ran(x, 1, 1, 0);
            due(r[0] + " / " + r[1], x.cell(0, 0), r[2]);
            dueF(r[0] + " / " + r[1], x.real(0, 0), (float) r[0] / (float) r[1]);
        }
        LaneBoard y = new LaneBoard();
        y.row(2, 2, 1);
        y.put(2, 0, 16777217);
        dueF("an int as a float", y.real(2, 0), 16777216f);
        dueF("0 where cell() would refuse", y.real(2, 1), 0);
        dueF("0 where cell() would refuse", y.real(2, -1), 0);
        dueF("0 where cell() would refuse", y.real(3, 0), 0);
    }

    /** "(What is told may be as a refusal is.)" */
    private static void maybeAsARefusal() {
        int[] refusals = {NONE, UNKNOWN, OUTSIDE, STATE, FULL};
        for (int v : refusals) {
            LaneBoard x = board(SET, 0, v, 0, S_STORE, 0, 0, 7, O_STORE, 0, 0, 7);
            x.row(0, 2, 1);
            x.put(0, 0, v);
            ran(x, 1, 1, 1);
            x.alone(0, 0);
            due("cell", x.cell(0, 0), v);
            dueF("real", x.real(0, 0), v);
            due("whole", x.whole(0, 0, 0), v);
            due("own", x.own(0, 0, 0), v);
            due("shared", x.shared(0, 0), v);
            due("left", x.left(6, 0), v);
            due("left", x.left(0, 0), v);
            due("left", x.left(7, 0), v);
            due("left", x.left(8, 0), v);
        }
    }

    // ---- launches

    /** "A LAUNCH, in place of one before; the RULE becomes 0: 1." */
    private static void launch() {
        LaneBoard x = goingOn();
        due("in place of one that goes on", x.launch(6, 4, 0), 1);
        for (int what = 0; what < 14; what++) {
            int want = what == 0 ? 1 : what == 3 ? 24 : what >= 6 && what <= 8 ? NONE : 0;
            due("told " + what, x.told(what), want);
        }
        due("no shared cells now", x.shared(5, 0), OUTSIDE);
        due("rows stay", x.cell(4, 4), 7);
        for (int n = 0; n < 2; n++) {
            due("one way, in place of the parted ones", x.group(n, 2), 1);
            due("its act", x.way(n, 0, 0), 0);
            due("its lanes", x.way(n, 0, 1), -1);
            due("over nowhere", x.way(n, 0, 2), NONE);
            due("no other", x.way(n, 1, 0), UNKNOWN);
        }
        x.rule(2, 0);
        x.step(1);
        due("the greatest", x.group(7, 5), 1);
        x.launch(6, 4, 0);
        due("none is in yet", x.group(0, 6), 0);
        due("free from 0", x.group(7, 5), 0);
        x.step(1);
        due("the rule is 0", x.group(0, 5), 1);
        due("the rule is 0", x.group(7, 5), 0);
        x.step(1);
        due("the rule is 0", x.group(1, 5), 2);
        for (int state = 2; state <= 4; state++) {
            LaneBoard y = inState(state);
            due("in place of one in state " + state, y.launch(1, 1, 0), 1);
            due("it goes on", y.told(0), 1);
            due("now", y.told(1), 0);
        }
    }

    /** "The RULE from now on; seed is looked at by RULE 3 alone: 1." */
    private static void rule() {
        for (int rule = 0; rule < 3; rule++) {
            for (int seed : new int[] {MIN, -1, 0, MAX}) {
                LaneBoard x = board(JUMP, 0, 0, 0);
                x.launch(1, 2, 0);
                due("any seed", x.rule(rule, seed), 1);
                x.step(1);
                due("looked at by rule 3 alone", x.group(rule == 2 ? 1 : 0, 5), 1);
            }
        }
        for (int state = 2; state <= 4; state++) due("of one that goes on no more", inState(state).rule(3, 1), 1);
    }

    /** "n TICKS (0 .. 400), as long as the LAUNCH goes on: how many were." */
    private static void step() {
        LaneBoard x = board(JUMP, 0, 0, 0);
        x.launch(1, 1, 0);
        due("none", x.step(0), 0);
        due("now", x.told(1), 0);
        due("one", x.step(1), 1);
        due("the most", x.step(400), 400);
        due("now", x.told(1), 401);
        due("too many", x.step(401), OUTSIDE);
        due("none was", x.told(1), 401);
        LaneBoard y = board(SET, 0, 1, 0, SET, 0, 2, 0, SET, 0, 3, 0);
        y.launch(1, 1, 0);
        due("as long as it goes on", y.step(400), 3);
        for (int state = 2; state <= 4; state++) {
            LaneBoard z = inState(state);
            int now = z.told(1);
            due("goes on no more", z.step(400), 0);
            due("goes on no more", z.step(0), 0);
            due("now stays", z.told(1), now);
        }
    }

    /** "(0 without a LAUNCH; 6 to 8 NONE.)"; "(NONE, NONE, NONE, 0 without one)" */
    private static void toldWithoutALaunch() {
        for (int what = 0; what < 14; what++) due("told " + what, new LaneBoard().told(what), what >= 6 && what <= 8 ? NONE : 0);
        LaneBoard x = ran(SET, 0, 1, 0);
        for (int what = 5; what < 10; what++) due("told " + what, x.told(what), what >= 6 && what <= 8 ? NONE : 0);
        LaneBoard y = ran(DIVIDE, 0, 0, 0);
        due("group 0 failed", y.told(6), 0);
        y.launch(1, 1, 0);
        due("a new one has not", y.told(6), NONE);
        due("a new one has not", y.told(9), 0);
    }

    /** "Of GROUP n: 0 the next ACT ... 6 whether it is in, or was." */
    private static void group() {
        LaneBoard x = board(SET, 0, 1, 0);
        x.launch(6, 4, 0);
        for (int what = 0; what < 7; what++) due("out, " + what, x.group(23, what), what == 1 ? -1 : what == 2 ? 1 : 0);
        due("no 24th", x.group(24, 0), UNKNOWN);
        due("no 7", x.group(23, 7), OUTSIDE);
        finish(x);
        int[] want = {1, 0, 0, 32, 4, 24, 1};
        for (int what = 0; what < 7; what++) due("ended, " + what, x.group(23, what), want[what]);
    }

    /** "WAY i of GROUP n's STACK, 0 the lowest"; "UNKNOWN (GROUP, WAY), OUTSIDE" */
    private static void way() {
        LaneBoard x = goingOn();
        due("the top", x.way(0, 2, 0), x.group(0, 0));
        due("its lanes", x.way(0, 2, 1), -2);
        due("the lowest", x.way(0, 0, 2), NONE);
        due("not one more", x.way(0, 3, 0), UNKNOWN);
        due("way ahead of what", x.way(0, 3, 3), UNKNOWN);
        due("what", x.way(0, 2, 3), OUTSIDE);
        due("ended: no way", over().way(0, 0, 0), UNKNOWN);
    }

    /** whole(), float0(), own() at the last GROUP, LANE and number there is, and behind them. */
    private static void lanes() {
        LaneBoard x = ran(board(LANE, 7, 0, 0, REAL, 3, 7, 0, SET, 0, 3, 0, O_STORE, 7, 0, 0, REAL, 0, 0, 0), 6, 4, 0);
        dueF("float0", x.float0(23, 31, 0), 3);
        dueF("float0", x.float0(0, 0, 0), 3);
        dueF("float0", x.float0(0, 0, -1), 0);
        due("whole", x.whole(23, 31, 7), 31);
        due("whole", x.whole(23, 31, 8), OUTSIDE);
        due("whole", x.whole(23, 32, 0), UNKNOWN);
        due("whole", x.whole(24, 0, 0), UNKNOWN);
        dueF("float0", x.float0(23, 31, 3), 31);
        dueF("float0", x.float0(23, 31, 4), 0);
        dueF("float0", x.float0(23, 32, 3), 0);
        dueF("float0", x.float0(24, 31, 3), 0);
        due("own", x.own(23, 31, 3), 31);
        due("own", x.own(23, 31, NONE), 4);
        due("own", x.own(23, 31, -2), OUTSIDE);
        due("own", x.own(23, 31, 4), OUTSIDE);
        due("own", x.own(24, 31, NONE), UNKNOWN);
        due("own", x.own(23, 32, NONE), UNKNOWN);
    }

    /** "Shared cell i of a BLOCK. UNKNOWN (no such BLOCK), OUTSIDE." */
    private static void sharedOfBlocks() {
        LaneBoard x = ran(board(BLOCK, 0, 0, 0, SET, 1, 63, 0, S_STORE, 0, 0, 1), 6, 4, 64);
        for (int block = 0; block < 6; block++) due("block " + block, x.shared(block, 63), block);
        due("no block 6", x.shared(6, 0), UNKNOWN);
        due("no cell 64", x.shared(5, 64), OUTSIDE);
        due("no cells", ran(board(SET, 0, 1, 0), 1, 1, 0).shared(0, 0), OUTSIDE);
        due("a block is no group", ran(board(SET, 0, 1, 0), 1, 4, 1).shared(1, 0), UNKNOWN);
    }

    /** "RACE i (0 .. 19) ... UNKNOWN (there is none such), OUTSIDE." */
    private static void race() {
        LaneBoard x = goingOn();
        due("the 20th", x.race(19, 7), 0);
        due("no 21st", x.race(20, 7), UNKNOWN);
        due("what", x.race(19, 8), OUTSIDE);
        due("none such ahead of what", x.race(20, 8), UNKNOWN);
        due("without one", ran(SET, 0, 1, 0).race(0, 0), UNKNOWN);
    }

    // ---- one lane, other orders

    /** "from its beginning, on ROWS and cells as they were then (nothing is changed)" */
    private static void alone() {
        LaneBoard x = board(SET, 0, 1, 0, ADD, 0, 0, 7, S_ADD, 0, 0, 7, SET, 1, 6, 0, NEW, 0, 0, 1);
        x.row(0, 2, 1);
        x.put(0, 0, 100);
        x.launch(2, 2, 1);
        x.put(0, 0, 500);
        for (int ticks : new int[] {0, 3, 400}) {
            x.step(ticks);
            String before = x.digest() + " " + x.told(1) + " " + x.told(13) + " " + x.shared(1, 0) + " " + x.own(3, 31, NONE);
            due("alone after " + ticks, x.alone(3, 31), 0);
            due("the row as it was at the beginning", x.left(6, 0), 0);
            due("and one more", x.left(0, 0), 101);
            due("what the row was is added to the shared cell", x.left(8, 0), 100);
            due("own cells", x.left(7, 5), 0);
            String after = x.digest() + " " + x.told(1) + " " + x.told(13) + " " + x.shared(1, 0) + " " + x.own(3, 31, NONE);
            dueText("nothing is changed", after, before);
        }
        due("the launch itself went on from what was put", x.cell(0, 0), 500 + 4 * 32);
    }

    /** "38 to 41 see it alone, FENCES go on, there is no COST" */
    private static void aloneByItself() {
        LaneBoard x = board(LANE, 0, 0, 0, ANY, 1, 0, 0, ALL, 2, 0, 0, COUNT, 3, 0, 0, SHUFFLE, 4, 0, 0, SET, 5, 0, 0,
            SHUFFLE, 5, 0, 5, FENCE, 0, 0, 0, FENCE, 0, 0, 0, GROUPS, 6, 0, 0, GROUP, 7, 0, 0);
        x.launch(1, 4, 0);
        int[][] want = {{0, 0, 0, 0, 0, 0, 4, 2}, {31, 1, 1, 1, 31, -1, 4, 2}};
        for (int k = 0; k < 2; k++) {
            due("ended", x.alone(2, 31 * k), 0);
            for (int i = 0; i < 8; i++) due("whole " + i + " of lane " + 31 * k, x.left(6, i), want[k][i]);
        }
        // A FENCE where the whole GROUP would be STUCK.
        LaneBoard y = ran(LANE, 0, 0, 0, BRANCH, 0, 3, 0, FENCE, 0, 0, 0, SET, 1, 1, 0);
        due("stuck", y.told(0), 3);
        due("alone it is not", y.alone(0, 0), 0);
        due("it went on", y.left(6, 1), 1);
        // A GROUP that is not in, and one that was not launched.
        LaneBoard z = board(BLOCK, 0, 0, 0, JUMP, 0, 3, 0, SET, 0, 9, 0);
        z.launch(6, 4, 0);
        due("one that is not in", z.alone(23, 0), 0);
        due("its block", z.left(6, 0), 5);
        due("no such group", z.alone(24, 0), UNKNOWN);
        // Without ACTS, and before the first TICK.
        LaneBoard w = new LaneBoard();
        w.launch(1, 1, 0);
        due("without acts", w.alone(0, 0), 0);
    }

    /** "1 to 7 a FAILURE" */
    private static void aloneFailures() {
        int[][] acts = {{LOAD, 0, 0, 7}, {F_LOAD, 0, 1, 7}, {LOAD, 0, 1, 6}, {NEW, 0, 0, 6}, {DIVIDE, 5, 5, 7}, {F_DIVIDE, 0, 0, 0},
            {NEW, 0, 0, 5}};
        for (int k = 0; k < 7; k++) {
            LaneBoard x = board(SET, 6, -1, 0, SET, 5, 17, 0, LANE, 0, 0, 0, STORE, 0, 1, 0);
            x.code(acts[k][0], acts[k][1], acts[k][2], acts[k][3]);
            x.code(SET, 1, 1, 0);
            x.row(1, 2, 32);
            x.launch(1, 1, 0);
            due("failure " + (k + 1), x.alone(0, 31), k + 1);
            due("what was done stays", x.left(1, 31), 31);
            due("no more", x.left(6, 1), 0);
            due("the launch has not failed", x.told(5), 0);
            due("nothing is changed", x.cell(1, 31), 0);
        }
        // By itself LANE 0 does not FAIL by what LANE 1 does.
        LaneBoard y = ran(LANE, 0, 0, 0, SET, 1, 1, 0, MINUS, 1, 0, 1, DIVIDE, 2, 0, 1);
        due("the group failed", y.told(9), 5);
        due("lane 1 fails", y.alone(0, 1), 5);
        due("lane 0 does not", y.alone(0, 0), 0);
        due("lane 31 does not", y.alone(0, 31), 0);
    }

    /** "up to 2000 ACTS: 0 it ENDED, ... 8 SPENT" */
    private static void aloneSpent() {
        for (int acts = 1998; acts <= 2002; acts++) {
            // SETS, then a loop of three ACTS, and the last is SET, STOP or a FAILURE.
            for (int last : new int[] {SET, STOP, DIVIDE, FENCE}) {
                int turns = (acts - 2) / 3, more = acts - 2 - 3 * turns;
                LaneBoard x = new LaneBoard();
                for (int k = 0; k < more; k++) x.code(SET, 6, 1, 0);
                add(x, SET, 0, turns, 0, SET, 2, -1, 0, PLUS, 0, 0, 2, BRANCH, 0, more + 1, 0, last, 1, 7, 7);
                x.launch(1, 1, 0);
                due(acts + " acts, the last " + last, x.alone(0, 7), acts > 2000 ? 8 : last == DIVIDE ? 5 : 0);
            }
        }
        LaneBoard y = board(SET, 0, 1, 0, PLUS, 1, 1, 0, JUMP, 0, 1, 0);
        y.launch(1, 1, 0);
        due("for ever", y.alone(0, 0), 8);
        due("1 + 1000 + 999", y.left(6, 1), 1000);
        LaneBoard z = board(LOAD, 0, 0, 7, PLUS, 1, 1, 0, JUMP, 0, 0, 0);
        z.row(0, 2, 1);
        z.put(0, 0, 1);
        z.launch(1, 1, 0);
        due("no cost", z.alone(0, 0), 8);
        due("of 2000 acts each third", z.left(6, 1), 667);
    }

    /** "which = 0 .. 5 a cell of that ROW, 6 WHOLES, 7 OWN, 8 shared cells, at a place. OUTSIDE: which, place" */
    private static void left() {
        LaneBoard x = board(SET, 0, 16, 0, NEW, 0, 0, 0, SET, 1, 15, 0, O_STORE, 0, 0, 1, SET, 1, 63, 0, S_STORE, 0, 0, 1,
            SET, 7, 255, 0, STORE, 7, 5, 7, STORE, 7, 0, 7);
        x.row(0, 0, 256);
        x.row(3, 3, 0);
        x.row(4, 3, 2);
        x.put(4, 1, MAX);
        x.row(5, 1, 256);
        x.launch(1, 1, 64);
        due("alone", x.alone(0, 0), 0);
        int[] lengths = {256, NONE, NONE, 0, 2, 256, 8, 16, 64};
        int[] last = {-1, 0, 0, 0, MAX, 255, 255, 16, 16};
        for (int which = 0; which < 9; which++) {
            int n = lengths[which];
            if (n > 0) due("the last of " + which, x.left(which, n - 1), last[which]);
            due("none behind it, " + which, x.left(which, Math.max(0, n)), OUTSIDE);
            due("none ahead, " + which, x.left(which, -1), OUTSIDE);
            due("none far off, " + which, x.left(which, MAX), OUTSIDE);
            due("none far off, " + which, x.left(which, MIN), OUTSIDE);
        }
        LaneBoard y = board(NEW, 0, 0, 7);
        y.launch(1, 1, 0);
        y.alone(0, 0);
        due("no own cells are left", y.left(7, 0), OUTSIDE);
        due("no shared cells", y.left(8, 0), OUTSIDE);
    }

    /** "What the latest alone() (not refused; 0 before one) left" */
    private static void leftBeforeOne() {
        LaneBoard x = board(SET, 0, 5, 0);
        x.row(0, 2, 4);
        x.put(0, 0, 9);
        for (int which = 0; which < 9; which++) due("before one, " + which, x.left(which, 0), 0);
        ran(x, 1, 1, 0);
        due("a refused one", x.alone(1, 0), UNKNOWN);
        for (int which = 0; which < 9; which++) due("after a refused one, " + which, x.left(which, 0), 0);
        due("alone", x.alone(0, 0), 0);
        due("left", x.left(6, 0), 5);
        due("left", x.left(0, 0), 9);
        due("a refused one", x.alone(0, 32), UNKNOWN);
        due("left", x.left(6, 0), 5);
    }

    /** What is left stays, whatever becomes of LAUNCH, ROWS and CODE, till the next alone(). */
    private static void leftStays() {
        LaneBoard x = board(LANE, 0, 0, 0, STORE, 0, 0, 0);
        x.row(0, 2, 32);
        ran(x, 1, 1, 3);
        x.alone(0, 30);
        x.keep();
        x.put(0, 30, 77);
        x.row(0, 3, NONE);
        x.wipe();
        due("it stays", x.left(0, 30), 30);
        due("it stays", x.left(8, 2), 0);
        x.code(SET, 0, 4, 0);
        ran(x, 1, 1, 0);
        due("it stays", x.left(6, 0), 30);
        x.differ(0, 0);
        due("it stays", x.left(6, 0), 30);
        x.alone(0, 0);
        due("a newer one", x.left(6, 0), 4);
        due("the row is missing in it", x.left(0, 30), OUTSIDE);
        x.back();
        due("it is not of what was kept", x.left(6, 0), 4);
    }

    /** "the first cell of ROWS, 256 times the ROW and the place, that is other ... than in ROWS now; NONE: none" */
    private static void differ() {
        LaneBoard x = board(SET, 0, 1, 0);
        for (int g = 0; g < 6; g++) if (g != 1) x.row(g, g % 4, g == 4 ? 0 : 256);
        ran(x, 1, 1, 0);
        due("none", x.differ(0, 0), NONE);
        for (int g : new int[] {5, 3, 2, 0}) {
            for (int place : new int[] {255, 1, 0}) {
                x.put(g, place, 1);
                due("the first", x.differ(0, 0), 256 * g + place);
            }
        }
        due("the launch is as it was", x.told(1), 1);
        // On ROWS as they were at the beginning, not as they are now.
        LaneBoard y = board(SET, 0, 1, 0, ADD, 0, 0, 7);
        y.row(0, 2, 1);
        y.launch(1, 1, 0);
        y.put(0, 0, 32);
        due("32 ones make 32", y.differ(0, 0), NONE);
        finish(y);
        due("64 are there now", y.cell(0, 0), 64);
        due("but 32 are there", y.differ(0, 0), 0);
        y.put(0, 0, 32);
        for (int rule = 0; rule < 4; rule++) due("by rule " + rule, y.differ(rule, MIN), NONE);
        due("the rows stay", y.cell(0, 0), 32);
        // Which GROUP stores last: 1 by RULES 0 and 1, 0 by RULE 2, and by RULE 3 as its seed says.
        LaneBoard z = board(GROUP, 0, 0, 0, STORE, 0, 0, 7);
        z.row(0, 2, 1);
        z.put(0, 0, 9);
        z.launch(1, 2, 0);
        for (int v = 0; v < 2; v++) {
            z.put(0, 0, v);
            for (int rule = 0; rule < 3; rule++) due("last by rule " + rule, z.differ(rule, 7), v == (rule == 2 ? 0 : 1) ? NONE : 0);
        }
        z.put(0, 0, 0);
        for (int seed = 0; seed < 12; seed++) {
            z.launch(1, 2, 0);
            z.rule(3, seed);
            finish(z);
            due("by its own seed " + seed, z.differ(3, seed), NONE);
            due("by the order told", z.differ(z.cell(0, 0) == 0 ? 2 : 1, 0), NONE);
        }
        LaneBoard w = new LaneBoard();
        w.launch(1, 1, 0);
        due("without acts", w.differ(0, 0), NONE);
        due("state", w.other(0), 2);
        due("ticks", w.other(1), 1);
    }

    /** "(as numbers)": of floats 0 and -0 are alike, and what cell() would cut is not. */
    private static void differAsNumbers() {
        LaneBoard x = board(SET, 0, -1, 0, REAL, 0, 0, 0, F_TIMES, 1, 0, 1, F_STORE, 1, 5, 7);
        x.row(5, 3, 1);
        x.launch(1, 1, 0);
        due("-0 is 0", x.differ(0, 0), NONE);
        finish(x);
        due("-0 is -0", x.differ(0, 0), NONE);
        LaneBoard y = board(SET, 0, 1, 0, REAL, 0, 0, 0, SET, 0, 2, 0, REAL, 1, 0, 0, F_DIVIDE, 0, 0, 1, F_STORE, 0, 5, 7);
        y.row(5, 3, 1);
        y.launch(1, 1, 0);
        due("a half is not 0", y.differ(0, 0), 256 * 5);
        due("though cell() tells 0", y.cell(5, 0), 0);
        finish(y);
        due("a half is a half", y.differ(0, 0), NONE);
        LaneBoard z = board(SET, 0, 1, 0, REAL, 0, 0, 0, F_DIVIDE, 0, 0, 1, F_STORE, 0, 5, 7);
        z.row(5, 3, 1);
        ran(z, 1, 1, 0);
        due("endless is endless", z.differ(0, 0), NONE);
        z.put(5, 0, MAX);
        due("and no int", z.differ(0, 0), 256 * 5);
    }

    /** "till it goes on no more (nothing is changed)" */
    private static void differTillItGoesOnNoMore() {
        int[][] codes = {{SET, 0, 1, 0, SET, 0, 2, 0}, {LANE, 0, 0, 0, BRANCH, 0, 3, 0, FENCE, 0, 0, 0, SET, 0, 0, 0}, {JUMP, 0, 0, 0}};
        int[] ticks = {2, 3, 2000};
        for (int k = 0; k < 3; k++) {
            LaneBoard x = board(codes[k]);
            x.launch(1, 1, 0);
            x.step(1);
            int now = x.told(1), before = x.digest();
            due("differ", x.differ(1, 0), NONE);
            due("state", x.other(0), k + 2);
            due("ticks", x.other(1), ticks[k]);
            due("the launch itself is where it was", x.told(1), now);
            due("and is what it was", x.digest(), before);
            due("and goes on", x.told(0), 1);
        }
        // The RULE of the LAUNCH stays, and its seed goes on as if nothing had been asked.
        LaneBoard a = board(JUMP, 0, 0, 0), b = board(JUMP, 0, 0, 0);
        for (LaneBoard x : new LaneBoard[] {a, b}) {
            x.launch(2, 4, 0);
            x.rule(3, 99);
            x.step(5);
        }
        a.differ(3, 1);
        a.alone(3, 3);
        a.step(20);
        b.step(20);
        for (int n = 0; n < 8; n++) due("group " + n, a.group(n, 5), b.group(n, 5));
    }

    /** "Of the latest differ() (not refused; 0 before one)" */
    private static void other() {
        LaneBoard x = board(GROUP, 0, 0, 0, STORE, 0, 0, 7, DIVIDE, 1, 1, 0);
        x.row(0, 2, 1);
        for (int what = 0; what < 4; what++) due("before one", x.other(what), 0);
        ran(x, 1, 2, 0);
        for (int what = 0; what < 4; what++) due("a launch is none", x.other(what), 0);
        due("refused", x.differ(4, 0), OUTSIDE);
        for (int what = 0; what < 4; what++) due("after a refused one", x.other(what), 0);
        due("differ", x.differ(1, 0), NONE);
        // GROUP 0: three ACTS, the store at tick 1, free from 5; GROUP 1: ticks 2, 3, free from 7; 0 fails at 5, 1 ends at 7.
        int[] want = {2, 8, 64 * 63 / 2, 1};
        for (int what = 0; what < 4; what++) due("other " + what, x.other(what), want[what]);
        due("refused", x.differ(-1, 0), OUTSIDE);
        x.wipe();
        due("refused", x.differ(0, 0), STATE);
        for (int what = 0; what < 4; what++) due("it stays, " + what, x.other(what), want[what]);
        x.code(SET, 0, 1, 0);
        x.launch(1, 1, 0);
        x.differ(0, 0);
        int[] next = {2, 1, 0, 0};
        for (int what = 0; what < 4; what++) due("a newer one, " + what, x.other(what), next[what]);
        due("no 4", x.other(4), OUTSIDE);
    }

    /** "All of the LAUNCH, with ROWS, is kept beside (in place of what was kept): 1. STATE: no LAUNCH." */
    private static void keep() {
        for (int state = 2; state <= 4; state++) {
            LaneBoard x = inState(state);
            due("of one in state " + state, x.keep(), 1);
            x.wipe();
            due("no launch", x.keep(), STATE);
            due("what was kept is still kept", x.back(), 1);
            due("state", x.told(0), state);
        }
        LaneBoard y = board(JUMP, 0, 0, 0);
        y.launch(1, 1, 0);
        y.keep();
        y.step(5);
        y.keep();
        y.step(5);
        y.back();
        due("in place of what was kept", y.told(1), 5);
    }

    /** "LAUNCH and ROWS are as they were kept, THE CODE, too; what was kept stays: 1. STATE: nothing is kept." */
    private static void back() {
        LaneBoard x = goingOn();
        due("nothing is kept", x.back(), STATE);
        due("keep", x.keep(), 1);
        String kept = allOf(x);
        finish(x);
        x.wipe();
        for (int g = 0; g < 6; g++) x.row(g, (g + 1) % 4, 7);
        x.code(SET, 9, 9, 9);
        due("another code", x.judge(), 0);
        due("back", x.back(), 1);
        dueText("all is as it was", allOf(x), kept);
        due("the code, too: it goes on", x.code(SET, 0, 0, 0), STATE);
        due("the code, too: its meet", x.meet(6), 11);
        x.put(2, 9, 1);
        due("back, in place of one that goes on", x.back(), 1);
        dueText("all is as it was", allOf(x), kept);
    }

    /** What goes on after back() goes on as it did: RULE, seed, TIMES, TOUCHES, the beginning's ROWS, FREE from. */
    private static void backIsWhole() {
        int[] acts = {LANE, 0, 0, 0, SET, 1, 1, 0, AND, 2, 0, 1, SET, 6, 1, 0, ADD, 1, 2, 0, BRANCH, 2, 8, 0, S_ADD, 5, 0, 2,
            JUMP, 0, 9, 0, LOAD, 3, 2, 7, FENCE, 0, 0, 0, STORE, 0, 2, 7, S_LOAD, 4, 0, 7, BRANCH, 6, 4, 0};
        for (int ticks = 1; ticks <= 61; ticks += 12) {
            LaneBoard x = board(acts);
            x.row(2, 2, 64);
            x.put(2, 5, 3);
            x.launch(2, 2, 2);
            x.rule(3, ticks);
            x.step(ticks);
            x.keep();
            x.step(40);
            int left = x.differ(2, 0);
            String first = allOf(x);
            finish(x);
            x.wipe();
            x.row(2, 0, 3);
            x.code(JUMP, 0, 0, 0);
            x.launch(6, 4, 64);
            x.step(9);
            x.back();
            due("the same ticks", x.step(40), 40);
            due("the same differ", x.differ(2, 0), left);
            dueText("the same after " + ticks, allOf(x), first);
        }
    }

    /** WHOLES, REALS, OWN and shared cells of each GROUP, WAYS and RACES, after a LAUNCH that wrote over all of them. */
    private static void backOfAllThereIs() {
        int[] acts = {LANE, 0, 0, 0, SET, 1, 3, 0, REAL, 3, 0, 0, REAL, 0, 0, 0, NEW, 0, 0, 1, SET, 2, 2, 0, O_STORE, 0, 0, 2,
            S_STORE, 0, 0, 2, BRANCH, 0, 11, 0, JUMP, 0, 12, 0, STOP, 0, 0, 0, LESS, 4, 1, 0, SET, 5, 1, 0};
        // Kept ahead of the BRANCH, and behind it.
        for (int rounds = 8; rounds <= 9; rounds++) {
            LaneBoard x = board(acts);
            x.launch(2, 4, 3);
            x.step(8 * rounds);
            x.keep();
            x.step(8 * 9 - 8 * rounds);
            String parted = everyLane(x);
            finish(x);
            x.wipe();
            // LANES from 7 on alone write to the shared cells; all turn for ever in one of two arms.
            add(x, SET, 0, 15, 0, REAL, 3, 0, 0, REAL, 0, 0, 0, NEW, 0, 0, 0, SET, 2, 5, 0, SET, 1, 2, 0, O_STORE, 0, 0, 1, LANE, 0, 0, 0,
                SET, 4, 7, 0, LESS, 4, 0, 4, BRANCH, 4, 14, 0, S_STORE, 2, 0, 1, SET, 0, 60, 0, JUMP, 0, 12, 0, BRANCH, 4, 14, 0);
            ran(x, 2, 4, 64);
            due("it is another one", x.told(0), 4);
            due("back", x.back(), 1);
            due("the ticks ahead", x.step(8 * 9 - 8 * rounds), 8 * 9 - 8 * rounds);
            dueText("every lane", everyLane(x), parted);
            finish(x);
            due("the code, too", x.wipe(), acts.length / 4);
        }
        // By RULE 0 the one behind the latest comes next.
        LaneBoard y = board(JUMP, 0, 0, 0);
        y.launch(1, 4, 0);
        y.step(2);
        y.keep();
        y.step(3);
        y.back();
        y.step(1);
        due("behind 1 comes 2", y.group(2, 5), 3);
    }

    private static String everyLane(LaneBoard x) {
        StringBuilder s = new StringBuilder();
        for (int n = 0; n < 8; n++) {
            for (int lane = 0; lane < 32; lane += 31) {
                s.append("\n").append(x.whole(n, lane, 2)).append(' ').append(x.float0(n, lane, 0)).append(' ');
                s.append(x.float0(n, lane, 3)).append(' ').append(x.own(n, lane, NONE)).append(' ').append(x.own(n, lane, 2));
            }
            for (int i = 0; i < x.group(n, 2); i++) {
                s.append(' ').append(x.way(n, i, 0)).append(':').append(x.way(n, i, 1)).append('>').append(x.way(n, i, 2));
            }
        }
        for (int i = 0; i < 20; i++) s.append(' ').append(x.race(i, 1)).append('/').append(x.race(i, 4));
        for (int i = 0; i < 3; i++) s.append(' ').append(x.shared(0, i)).append(' ').append(x.shared(1, i));
        return s.append(' ').append(x.digest()).toString();
    }

    /** TOUCHES from before a keep() race with those after back(), by their own GROUP, LANE, ACT, TIME and manner. */
    private static void backOfTouches() {
        touchesKept(GROUP, SET, LOAD, STORE, 3);
        touchesKept(GROUP, FENCE, LOAD, STORE, 0);
        touchesKept(BLOCK, FENCE, LOAD, STORE, 3);
        touchesKept(GROUP, SET, LOAD, LOAD, 0);
        touchesKept(GROUP, SET, ADD, ADD, 0);
        touchesKept(BLOCK, SET, ADD, LOAD, 3);
        chainKept();
        // One GROUP stores in its first ACT, and behind back() in its third, which is that of the TOUCHES in between.
        LaneBoard x = ran(board(S_STORE, 0, 0, 7, SET, 1, 1, 0, S_STORE, 0, 0, 7), 1, 1, 1);
        x.launch(1, 1, 1);
        x.step(1);
        x.keep();
        finish(x);
        x.wipe();
        add(x, SET, 1, 1, 0, SET, 1, 1, 0, S_STORE, 0, 0, 7);
        ran(x, 1, 1, 1);
        x.back();
        finish(x);
        due("of each act by itself", x.told(12), 2 * 32 * 31 / 2);
    }

    /** LANES from 5 on store to places 2, 1, 0, 3, 2, ..: other TOUCHES of the same cells, at another TIME. */
    private static void touchOtherwise(LaneBoard x) {
        x.wipe();
        add(x, FENCE, 0, 0, 0, LANE, 0, 0, 0, SET, 1, 5, 0, LESS, 2, 0, 1, BRANCH, 2, 9, 0, SET, 1, 3, 0, XOR, 2, 0, 1, AND, 2, 2, 1,
            STORE, 5, 0, 2);
        ran(x, 2, 1, 0);
    }

    /** GROUP 0 loads a cell by all its LANES; after back() GROUP 1 stores to it, which races with each of them. */
    private static void chainKept() {
        for (int turn = 0; turn < 2; turn++) {
            LaneBoard x = board(GROUP, 3, 0, 0, BRANCH, 3, 4, 0, LOAD, 4, 0, 7, STOP, 0, 0, 0, STORE, 0, 0, 7);
            x.row(0, 2, 4);
            x.launch(1, 2, 0);
            x.rule(1, 0);
            x.step(3);
            x.keep();
            finish(x);
            if (turn == 1) {
                touchOtherwise(x);
                x.back();
                finish(x);
            }
            due("pairs", x.told(12), 32 * 32 + 32 * 31 / 2);
            for (int i = 0; i < 20; i++) {
                due("the earlier one's lane", x.race(i, 1), i);
                due("the later one's lane", x.race(i, 4), 0);
            }
        }
    }

    /** LANES 0 to 2 of the first GROUP do op at places 0 to 2; behind one ACT more those of the second do the other there. */
    private static void touchesKept(int number, int between, int op, int other, int pairs) {
        int[] acts = {LANE, 0, 0, 0, SET, 1, 3, 0, LESS, 2, 0, 1, BRANCH, 2, 5, 0, STOP, 0, 0, 0, number, 3, 0, 0, BRANCH, 3, 9, 0,
            op, 4, 0, 0, STOP, 0, 0, 0, between, 5, 0, 0, other, 0, 0, 0};
        for (int turn = 0; turn < 2; turn++) {
            LaneBoard x = board(acts);
            x.row(0, 2, 40);
            x.launch(number == BLOCK ? 2 : 1, number == BLOCK ? 1 : 2, 0);
            x.rule(1, 0);
            x.step(8);
            due("the first has touched", x.told(13), 3);
            x.keep();
            if (turn == 1) {
                finish(x);
                touchOtherwise(x);
                x.back();
            }
            finish(x);
            due("over", x.told(0), 2);
            due("touches", x.told(13), 6);
            due("pairs", x.told(12), pairs);
            for (int i = 0; i < pairs; i++) {
                int[] want = {0, i, 7, 1, i, 10, 0, i};
                for (int what = 0; what < 8; what++) due("race " + i + ", " + what, x.race(i, what), want[what]);
            }
            due("no more", x.race(pairs, 0), UNKNOWN);
        }
    }

    /** "what was kept stays" */
    private static void backStays() {
        LaneBoard x = board(SET, 0, 1, 0, ADD, 0, 0, 7, JUMP, 0, 0, 0);
        x.row(0, 2, 1);
        x.launch(1, 1, 0);
        x.step(2);
        x.keep();
        for (int k = 0; k < 3; k++) {
            x.step(100);
            due("it went on", x.told(1), 102);
            x.put(0, 0, -k);
            due("back", x.back(), 1);
            due("now", x.told(1), 2);
            due("the cell", x.cell(0, 0), 32);
        }
    }

    /** "d is 7; for ROWS in order, missing ones too: 31 d and the length (-1: missing) ... All wrapping." */
    private static void digest() {
        int d = 7;
        for (int g = 0; g < 6; g++) d = 31 * d - 1;
        due("a new one", new LaneBoard().digest(), d);
        LaneBoard x = new LaneBoard();
        d = 7;
        for (int g = 0; g < 6; g++) {
            x.row(g, g % 4, g == 1 ? NONE : g == 4 ? 0 : 2);
            x.put(g, 1, 1000000 * (g + 1));
            d = 31 * d + (g == 1 ? NONE : g == 4 ? 0 : 2);
            if (g == 1 || g == 4) continue;
            d = 31 * d;
            int v = 1000000 * (g + 1);
            d = 31 * d + (g == 0 ? (byte) v : g == 5 ? (short) v : v);
        }
        due("rows of each sort", x.digest(), d);
        x.code(LANE, 7, 0, 0);
        ran(x, 6, 4, 0);
        int withWholes = d;
        for (int lane = 0; lane < 24 * 32; lane++) {
            for (int i = 0; i < 8; i++) withWholes = 31 * withWholes + (i == 7 ? lane % 32 : 0);
        }
        due("wholes", x.digest(), withWholes);
        x.wipe();
        due("without a launch no wholes", x.digest(), d);
        LaneBoard y = board(SET, 0, 1, 0, REAL, 0, 0, 0, SET, 0, 0, 0, F_DIVIDE, 0, 0, 1, F_STORE, 0, 0, 7, SET, 0, 0, 0);
        y.row(0, 3, 1);
        ran(y, 1, 1, 0);
        int e = 31 * (31 * 7 + 1) + MAX;
        for (int g = 1; g < 6; g++) e = 31 * e - 1;
        for (int i = 0; i < 256; i++) e = 31 * e;
        due("what cell() tells", y.digest(), e);
    }
}
