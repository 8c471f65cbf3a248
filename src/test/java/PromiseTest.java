/** Each promise of the document by itself: ordinary inputs, the edges it names, and wrong inputs. */
public final class PromiseTest {
    private static final int NONE = LaneBoard.NONE, UNKNOWN = LaneBoard.UNKNOWN, OUTSIDE = LaneBoard.OUTSIDE;
    private static final int STATE = LaneBoard.STATE, FULL = LaneBoard.FULL;
    private static int wrong = 0;
    private static int asked = 0;

    private static void due(String what, long got, long want) {
        asked++;
        if (got == want) return;
        wrong++;
        System.out.println(what + " answered " + got + ", due is " + want);
    }

    private static void dueF(String what, float got, float want) {
        asked++;
        if (got == want) return;
        wrong++;
        System.out.println(what + " answered " + got + ", due is " + want);
    }

    public static void main(String[] args) {
        newObject();
        code();
        wipe();
        judge();
        meet();
        row();
        put();
        cellAndReal();
        launch();
        rule();
        seeded();
        step();
        states();
        told();
        group();
        way();
        nestedWays();
        endingAtOnce();
        together();
        fences();
        fenceOpenedByAnEnd();
        places();
        costs();
        wholes();
        sums();
        reals();
        endlessReals();
        own();
        shared();
        failures();
        failuresInOrder();
        partFailed();
        races();
        racesOrdered();
        racesOfSharedCells();
        racesBehindTheThousandth();
        alone();
        left();
        differ();
        other();
        keepAndBack();
        keepTouches();
        keepActsDone();
        digest();
        emptyCode();
        System.out.println(wrong == 0 ? asked + " answers are as due" : wrong + " answers are not as due");
        if (wrong != 0) System.exit(1);
    }

    private static LaneBoard board(int... acts) {
        LaneBoard x = new LaneBoard();
        addAll(x, acts);
        return x;
    }

    private static void addAll(LaneBoard x, int... acts) {
        for (int i = 0; i < acts.length; i += 4) x.code(acts[i], acts[i + 1], acts[i + 2], acts[i + 3]);
    }

    /** Until it goes on no more. */
    private static int finish(LaneBoard x) {
        int ticks = 0;
        for (int k = 0; k < 5; k++) ticks += x.step(400);
        return ticks;
    }

    private static void newObject() {
        LaneBoard x = new LaneBoard();
        due("1 judge", x.judge(), NONE);
        due("1 wipe", x.wipe(), 0);
        for (int g = 0; g < 6; g++) {
            due("1 cell", x.cell(g, 0), UNKNOWN);
            due("1 put", x.put(g, 0, 0), UNKNOWN);
        }
        for (int what = 0; what < 14; what++) due("1 told " + what, x.told(what), what >= 6 && what <= 8 ? NONE : 0);
        due("1 group", x.group(0, 0), UNKNOWN);
        due("1 rule", x.rule(0, 0), STATE);
        due("1 step", x.step(1), STATE);
        due("1 keep", x.keep(), STATE);
        due("1 back", x.back(), STATE);
        due("1 differ", x.differ(0, 0), STATE);
        due("1 alone", x.alone(0, 0), UNKNOWN);
        int d = 7;
        for (int g = 0; g < 6; g++) d = 31 * d - 1;
        due("1 digest", x.digest(), d);
    }

    private static void code() {
        LaneBoard x = new LaneBoard();
        due("2 code", x.code(99, -5, 7, 1 << 30), 1);
        due("2 not sound", x.judge(), 0);
        x.wipe();
        for (int i = 1; i <= 90; i++) due("2 code", x.code(0, 0, i, 0), i);
        due("2 full", x.code(0, 0, 0, 0), FULL);
        due("2 launch", x.launch(1, 1, 0), 1);
        due("2 state ahead of full", x.code(0, 0, 0, 0), STATE);
        due("2 step", x.step(400), 90);
        due("2 full again", x.code(0, 0, 0, 0), FULL);
        due("2 the launch stays when refused", x.told(0), 2);
        LaneBoard y = board(0, 0, 5, 0);
        y.launch(1, 1, 0);
        due("2 state", y.code(0, 0, 0, 0), STATE);
        y.step(1);
        due("2 one more", y.code(0, 0, 0, 0), 2);
        due("2 the launch is gone", y.told(0), 0);
        due("2 no group", y.group(0, 0), UNKNOWN);
        due("2 no whole", y.whole(0, 0, 0), UNKNOWN);
    }

    private static void wipe() {
        LaneBoard x = board(37, 0, 0, 0);
        x.launch(1, 1, 1);
        due("3 state", x.wipe(), STATE);
        due("3 still there", x.judge(), NONE);
        finish(x);
        due("3 wipe", x.wipe(), 1);
        due("3 wipe again", x.wipe(), 0);
        due("3 the launch is gone", x.told(0), 0);
        due("3 now", x.told(1), 0);
        due("3 failed group", x.told(6), NONE);
        due("3 shared", x.shared(0, 0), UNKNOWN);
    }

    private static int judged(int op, int a, int b, int c) {
        LaneBoard x = board(43, 0, 0, 0, op, a, b, c);
        return x.judge();
    }

    private static void judge() {
        String[] needs = {"w--", "ww-", "www", "www", "www", "www", "www", "www", "www", "www", "www", "www", "www", "www",
            "w--", "w--", "w--", "w--", "fw-", "fff", "fff", "fff", "fff", "wff", "wf-",
            "wgw", "wgw", "fgw", "fgw", "wgw", "w-w", "w-w", "w-w", "w-w", "w-w", "--w",
            "wt-", "-t-", "ww-", "ww-", "ww-", "www", "---", "---"};
        for (int op = 0; op < 44; op++) {
            int[] most = new int[3];
            for (int k = 0; k < 3; k++) {
                char n = needs[op].charAt(k);
                most[k] = n == 'w' ? 7 : n == 'f' ? 3 : n == 'g' ? 5 : n == 't' ? 2 : 12345;
            }
            due("4 the greatest, op " + op, judged(op, most[0], most[1], most[2]), NONE);
            due("4 zeros, op " + op, judged(op, 0, 0, 0), NONE);
            for (int k = 0; k < 3; k++) {
                boolean needed = most[k] != 12345;
                int[] v = most.clone();
                v[k]++;
                due("4 one more, op " + op, judged(op, v[0], v[1], v[2]), needed ? 1 : NONE);
                v[k] = -1;
                due("4 one less, op " + op, judged(op, v[0], v[1], v[2]), needed ? 1 : NONE);
            }
        }
        due("4 op 44", judged(44, 0, 0, 0), 1);
        due("4 op -1", judged(-1, 0, 0, 0), 1);
        LaneBoard x = board(37, 0, 2, 0);
        due("4 behind the end", x.judge(), 0);
        x.code(44, 0, 0, 0);
        due("4 the end is further on", x.judge(), 1);
    }

    private static void meet() {
        LaneBoard x = board(36, 0, 3, 0, 0, 1, 1, 0, 37, 0, 4, 0, 0, 1, 2, 0, 36, 0, 6, 0, 36, 1, 0, 0, 43, 0, 0, 0);
        due("5 two arms", x.meet(0), 4);
        due("5 over one", x.meet(4), 6);
        due("5 back to the first", x.meet(5), 6);
        due("5 no branch", x.meet(1), OUTSIDE);
        due("5 below", x.meet(-1), OUTSIDE);
        due("5 the end", x.meet(7), OUTSIDE);
        x.code(44, 0, 0, 0);
        due("5 not sound", x.meet(0), STATE);
        due("5 outside first", x.meet(1), OUTSIDE);
        due("5 itself", board(36, 0, 0, 0, 0, 0, 0, 0).meet(0), 1);
        due("5 both ways the same", board(36, 0, 1, 0, 0, 0, 0, 0).meet(0), 1);
        due("5 stop on one way", board(36, 0, 2, 0, 43, 0, 0, 0, 0, 0, 0, 0).meet(0), 3);
        due("5 no way to the end", board(36, 0, 2, 0, 37, 0, 0, 0, 37, 0, 0, 0, 0, 0, 0, 0).meet(0), 4);
        due("5 one way never ends", board(36, 0, 2, 0, 37, 0, 1, 0, 0, 0, 0, 0, 0, 0, 0, 0).meet(0), 2);
        due("5 the end is next", board(36, 0, 0, 0).meet(0), 1);
        LaneBoard far = board(36, 0, 88, 0);
        for (int i = 1; i < 90; i++) far.code(i == 87 ? 37 : 0, 0, i == 87 ? 70 : 0, 0);
        due("5 a loop above 64", far.meet(0), 88);
        for (int target = 2; target <= 90; target++) {
            far = new LaneBoard();
            for (int i = 0; i < 90; i++) far.code(i == 1 ? 36 : 0, 0, i == 1 ? target : 0, 0);
            due("5 each place", far.meet(1), target);
        }
        far.wipe();
        addAll(far, 36, 0, 3, 0, 36, 1, 3, 0, 36, 2, 0, 0);
        due("5 wiped and new: 0", far.meet(0), 3);
        due("5 wiped and new: 1", far.meet(1), 3);
        due("5 wiped and new: 2", far.meet(2), 3);
    }

    private static void row() {
        LaneBoard x = new LaneBoard();
        due("6 row", x.row(0, 2, 256), 1);
        due("6 last cell", x.cell(0, 255), 0);
        due("6 none behind it", x.cell(0, 256), OUTSIDE);
        due("6 no cells", x.row(1, 0, 0), 1);
        due("6 no such cell", x.cell(1, 0), OUTSIDE);
        x.put(0, 3, 9);
        due("6 again", x.row(0, 2, 8), 1);
        due("6 all 0", x.cell(0, 3), 0);
        due("6 missing", x.row(0, 3, NONE), 1);
        due("6 is missing", x.cell(0, 0), UNKNOWN);
        due("6 g 6", x.row(6, 9, 0), UNKNOWN);
        due("6 g -1", x.row(-1, 0, 0), UNKNOWN);
        due("6 sort 4", x.row(0, 4, 0), OUTSIDE);
        due("6 sort -1", x.row(0, -1, NONE), OUTSIDE);
        due("6 n -2", x.row(0, 0, -2), OUTSIDE);
        due("6 n 257", x.row(0, 0, 257), OUTSIDE);
        x.code(0, 0, 0, 0);
        x.launch(1, 1, 0);
        due("6 state", x.row(0, 0, 1), STATE);
        due("6 outside ahead of state", x.row(0, 4, 1), OUTSIDE);
        x.step(1);
        due("6 over", x.row(0, 0, 1), 1);
        due("6 the launch is gone", x.told(0), 0);
    }

    private static void put() {
        LaneBoard x = new LaneBoard();
        for (int sort = 0; sort < 4; sort++) x.row(sort, sort, 4);
        for (int sort = 0; sort < 4; sort++) due("7 put", x.put(sort, 3, 0x12345F81), 1);
        due("7 byte", x.cell(0, 3), -127);
        due("7 short", x.cell(1, 3), 0x5F81);
        due("7 int", x.cell(2, 3), 0x12345F81);
        dueF("7 float", x.real(3, 3), (float) 0x12345F81);
        due("7 unknown", x.put(4, 0, 0), UNKNOWN);
        due("7 unknown", x.put(-1, 0, 0), UNKNOWN);
        due("7 unknown", x.put(6, 0, 0), UNKNOWN);
        due("7 outside", x.put(0, 4, 0), OUTSIDE);
        due("7 outside", x.put(0, -1, 0), OUTSIDE);
        x.code(37, 0, 0, 0);
        x.launch(1, 1, 0);
        due("7 while a launch goes on", x.put(2, 0, 5), 1);
        due("7 it goes on", x.told(0), 1);
    }

    private static void cellAndReal() {
        LaneBoard x = board(0, 0, -7, 0, 18, 0, 0, 0, 0, 0, 2, 0, 18, 1, 0, 0, 22, 0, 0, 1, 28, 0, 3, 7);
        x.row(3, 3, 2);
        x.row(0, 0, 2);
        x.launch(1, 1, 0);
        x.step(400);
        due("8 cut towards 0", x.cell(3, 0), -3);
        dueF("9 as it is", x.real(3, 0), -3.5f);
        x.put(0, 1, 200);
        dueF("9 of a byte", x.real(0, 1), -56);
        due("8 unknown", x.cell(1, 0), UNKNOWN);
        due("8 unknown", x.cell(6, 0), UNKNOWN);
        due("8 unknown", x.cell(-1, 0), UNKNOWN);
        due("8 outside", x.cell(3, 2), OUTSIDE);
        due("8 outside", x.cell(3, -1), OUTSIDE);
        dueF("9 refused", x.real(1, 0), 0);
        dueF("9 refused", x.real(3, 2), 0);
        dueF("9 refused", x.real(-1, 0), 0);
        dueF("9 refused", x.real(6, 0), 0);
    }

    private static void launch() {
        LaneBoard x = board(0, 0, 1, 0, 37, 0, 0, 0);
        int[][] bad = {{0, 1, 0}, {7, 1, 0}, {1, 0, 0}, {1, 5, 0}, {1, 1, -1}, {1, 1, 65}};
        for (int[] b : bad) due("10 outside", x.launch(b[0], b[1], b[2]), OUTSIDE);
        due("10 none yet", x.told(0), 0);
        due("10 launch", x.launch(6, 4, 64), 1);
        due("10 groups", x.told(3), 24);
        x.rule(2, 0);
        x.step(3);
        due("10 refused", x.launch(0, 0, 0), OUTSIDE);
        due("10 the old one stays", x.told(1), 3);
        due("10 in place of one that goes on", x.launch(1, 2, 0), 1);
        due("10 anew", x.told(1), 0);
        due("10 wholes are 0", x.whole(1, 0, 0), 0);
        x.step(1);
        due("10 the rule is 0", x.whole(0, 0, 0), 1);
        due("10 the rule is 0", x.whole(1, 0, 0), 0);
        LaneBoard y = board(36, 0, 2, 0);
        due("10 not sound", y.launch(1, 1, 0), STATE);
        due("10 outside ahead of state", y.launch(1, 1, 99), OUTSIDE);
    }

    private static void rule() {
        LaneBoard x = board(37, 0, 0, 0);
        due("11 no launch", x.rule(0, 0), STATE);
        due("11 outside first", x.rule(-1, 0), OUTSIDE);
        x.launch(1, 3, 0);
        due("11 outside", x.rule(4, 0), OUTSIDE);
        x.step(2);
        due("11 round", x.group(1, 5), 2);
        due("11 the greatest", x.rule(2, 0), 1);
        x.step(2);
        due("11 2 twice", x.group(2, 5), 4);
        due("11 round again", x.rule(0, 0), 1);
        x.step(1);
        due("11 behind 2 comes 0", x.group(0, 5), 5);
        x.rule(1, 0);
        x.step(1);
        due("11 the least", x.group(0, 5), 6);
        x.rule(0, 0);
        x.step(1);
        due("11 behind 0 comes 1", x.group(1, 5), 7);
        LaneBoard y = board(0, 0, 0, 0);
        y.launch(1, 1, 0);
        y.step(1);
        due("11 of one that is over", y.rule(3, 1), 1);
    }

    private static void seeded() {
        LaneBoard x = board(37, 0, 0, 0);
        x.launch(1, 3, 0);
        x.rule(3, -77);
        int h = -77;
        for (int tick = 0; tick < 30; tick++) {
            h = h * 1103515245 + 12345;
            x.step(1);
            due("11 by the seed", x.group((h >>> 16) % 3, 5), tick + 1);
        }
        LaneBoard idle = board(25, 0, 0, 7, 37, 0, 0, 0);
        idle.row(0, 2, 1);
        idle.launch(1, 2, 0);
        idle.rule(3, 5);
        int seed = 5;
        int[] free = {0, 0};
        int[] at = {0, 0};
        for (int tick = 0; tick < 40; tick++) {
            int ready = 0, one = 0;
            for (int g = 1; g >= 0; g--) if (free[g] <= tick) { ready++; one = g; }
            if (ready > 0) {
                seed = seed * 1103515245 + 12345;
                int g = ready == 2 ? (seed >>> 16) % 2 : one;
                free[g] = tick + 1 + (at[g] == 0 ? 3 : 0);
                at[g] ^= 1;
            }
            idle.step(1);
            due("11 the seed rests while idle", idle.group(0, 5), free[0]);
            due("11 the seed rests while idle", idle.group(1, 5), free[1]);
        }
    }

    private static void step() {
        LaneBoard x = board(0, 0, 1, 0, 0, 0, 2, 0);
        due("12 no launch", x.step(0), STATE);
        due("12 outside first", x.step(-1), OUTSIDE);
        x.launch(1, 1, 0);
        due("12 none", x.step(0), 0);
        due("12 outside", x.step(401), OUTSIDE);
        due("12 one", x.step(1), 1);
        due("12 whole", x.whole(0, 31, 0), 1);
        due("12 as long as it goes on", x.step(400), 1);
        due("12 over", x.step(400), 0);
    }

    private static void states() {
        LaneBoard x = board(37, 0, 0, 0);
        x.launch(1, 1, 0);
        for (int k = 0; k < 4; k++) due("12 of 2000", x.step(400), 400);
        due("12 of 2000", x.step(399), 399);
        due("13 goes on", x.told(0), 1);
        due("12 the last", x.step(400), 1);
        due("13 spent", x.told(0), 4);
        due("13 now", x.told(1), 2000);
        due("12 no more", x.step(400), 0);
        due("2 a spent one goes", x.code(0, 0, 0, 0), 2);
        LaneBoard y = board(14, 0, 0, 0, 36, 0, 3, 0, 42, 0, 0, 0, 0, 1, 1, 0);
        y.launch(4, 4, 0);
        finish(y);
        due("13 stuck", y.told(0), 3);
        due("13 no further block", y.group(8, 6), 0);
        due("13 ended", y.told(4), 0);
        due("13 ticks", y.told(1), 24);
    }

    private static void told() {
        LaneBoard x = board(14, 0, 0, 0, 25, 1, 0, 0, 26, 0, 0, 0, 5, 2, 0, 1);
        x.row(0, 2, 64);
        x.launch(1, 2, 0);
        finish(x);
        // 25 and 26 of the two GROUPS touch the same 32 cells: in each a store against the other's load, twice, and a
        // store against the other's store.
        int[] want = {2, 12, 4, 2, 2, 2, 0, 0, 3, 5, 8, 12, 32 * 3, 128};
        for (int what = 0; what < 14; what++) due("13 told " + what, x.told(what), want[what]);
        due("13 outside", x.told(14), OUTSIDE);
        due("13 outside", x.told(-1), OUTSIDE);
    }

    private static void group() {
        LaneBoard x = board(14, 0, 0, 0, 36, 0, 3, 0, 43, 0, 0, 0, 25, 1, 0, 7);
        x.row(0, 2, 1);
        x.launch(3, 3, 0);
        due("14 next", x.group(0, 0), 0);
        due("14 all lanes", x.group(8, 1), -1);
        due("14 one way", x.group(0, 2), 1);
        due("14 none ended", x.group(0, 3), 0);
        due("14 goes on", x.group(0, 4), 0);
        due("14 free", x.group(0, 5), 0);
        due("14 not in yet", x.group(0, 6), 0);
        x.rule(1, 0);
        x.step(2);
        due("14 in", x.group(5, 6), 1);
        due("14 not in", x.group(6, 6), 0);
        due("14 more lanes first", x.group(0, 0), 3);
        due("14 in step", x.group(0, 1), -2);
        due("14 ways", x.group(0, 2), 3);
        x.step(1);
        due("14 the end is the meet", x.group(0, 0), 2);
        due("14 in step", x.group(0, 1), 1);
        due("14 ended lanes", x.group(0, 3), 31);
        due("14 free", x.group(0, 5), 6);
        x.step(100);
        due("14 ended", x.group(0, 0), 4);
        due("14 no lanes", x.group(0, 1), 0);
        due("14 no ways", x.group(0, 2), 0);
        due("14 ended lanes", x.group(0, 3), 32);
        due("14 ended", x.group(0, 4), 4);
        due("14 was in", x.group(0, 6), 1);
        due("14 came in", x.group(8, 6), 1);
        due("14 unknown", x.group(9, 9), UNKNOWN);
        due("14 unknown", x.group(-1, 0), UNKNOWN);
        due("14 outside", x.group(0, 7), OUTSIDE);
        due("14 outside", x.group(0, -1), OUTSIDE);
    }

    private static void way() {
        LaneBoard x = board(14, 0, 0, 0, 0, 1, 20, 0, 12, 2, 0, 1, 36, 2, 6, 0, 0, 3, 1, 0, 37, 0, 7, 0, 0, 3, 2, 0, 0, 4, 1, 0);
        x.launch(1, 1, 0);
        x.step(4);
        due("15 lowest: at the meet", x.way(0, 0, 0), 7);
        due("15 lowest: all", x.way(0, 0, 1), -1);
        due("15 lowest: over nowhere", x.way(0, 0, 2), NONE);
        due("15 fewer lanes wait", x.way(0, 1, 0), 4);
        due("15 fewer lanes", x.way(0, 1, 1), 0xFFF00000);
        due("15 over", x.way(0, 1, 2), 7);
        due("15 more lanes on top", x.way(0, 2, 0), 6);
        due("15 more lanes", x.way(0, 2, 1), 0x000FFFFF);
        due("15 over", x.way(0, 2, 2), 7);
        due("15 no such way", x.way(0, 3, 0), UNKNOWN);
        due("15 no such way", x.way(0, -1, 5), UNKNOWN);
        due("15 no such group", x.way(1, 0, 0), UNKNOWN);
        due("15 outside", x.way(0, 0, 3), OUTSIDE);
        due("15 outside", x.way(0, 0, -1), OUTSIDE);
        x.step(1);
        due("15 it went", x.group(0, 2), 2);
        x.step(2);
        due("15 they met", x.group(0, 2), 1);
        due("15 at the meet", x.way(0, 0, 0), 7);
        x.step(1);
        due("15 none left", x.way(0, 0, 0), UNKNOWN);
        due("15 one", x.whole(0, 19, 3), 2);
        due("15 other", x.whole(0, 20, 3), 1);
    }

    private static void nestedWays() {
        // LANES leave a loop one by one: the STACK grows by a WAY for each that is left.
        LaneBoard x = board(14, 0, 0, 0, 0, 2, 1, 0, 2, 1, 1, 2, 12, 3, 1, 0, 36, 3, 2, 0, 0, 7, 1, 0);
        x.launch(1, 1, 0);
        due("15 meet of a loop", x.meet(4), 5);
        int ticks = 2;
        x.step(2);
        for (int k = 1; k <= 30; k++) {
            x.step(3);
            ticks += 3;
            due("15 lanes still in the loop", x.group(0, 1), -1 << k + 1);
            due("15 the loop's way and those that wait", x.group(0, 2), k + 1);
        }
        x.step(3);
        ticks += 3;
        due("15 all met", x.group(0, 2), 1);
        due("15 all met", x.group(0, 1), -1);
        due("15 at the meet", x.group(0, 0), 5);
        due("15 last", x.whole(0, 31, 1), 31);
        due("15 first", x.whole(0, 0, 1), 1);
        due("15 ticks", x.told(1), ticks);
        // Two arms at each of 31 partings, and no meet but THE END: 63 WAYS, the most there can be.
        LaneBoard y = board(14, 0, 0, 0, 0, 2, 1, 0, 13, 3, 0, 1, 36, 3, 6, 0, 2, 1, 1, 2, 37, 0, 2, 0, 37, 0, 6, 0);
        y.launch(1, 1, 0);
        y.step(2 + 31 * 4 - 2);
        due("15 no way to the end", y.meet(3), 7);
        due("15 as deep as it goes", y.group(0, 2), 63);
        due("15 one lane on top", Integer.bitCount(y.group(0, 1)), 1);
    }

    private static void endingAtOnce() {
        LaneBoard x = board(14, 0, 0, 0, 36, 0, 4, 0, 0, 1, 1, 0, 0, 1, 2, 0);
        x.launch(1, 1, 0);
        x.step(2);
        due("15 those that go to the end have ended", x.group(0, 3), 31);
        due("15 no parting of one", x.group(0, 2), 1);
        due("15 it goes on", x.group(0, 0), 2);
        due("15 over nowhere", x.way(0, 0, 2), NONE);
        x.step(9);
        due("15 lane 0 alone", x.whole(0, 0, 1), 2);
        due("15 not lane 1", x.whole(0, 1, 1), 0);
        LaneBoard y = board(14, 0, 0, 0, 36, 0, 0, 0);
        y.launch(1, 1, 0);
        y.step(2);
        due("15 those behind the last act have ended", y.group(0, 3), 1);
        due("15 the others go back", y.group(0, 0), 0);
        due("15 no parting of one", y.group(0, 2), 1);
        LaneBoard z = board(14, 0, 0, 0, 36, 0, 2, 0, 40, 1, 0, 0);
        z.launch(1, 1, 0);
        z.step(2);
        due("15 both ways at the meet", z.group(0, 2), 1);
        due("15 both ways at the meet", z.group(0, 1), -1);
        LaneBoard s = board(14, 0, 0, 0, 36, 0, 3, 0, 43, 0, 0, 0, 40, 1, 0, 0, 14, 2, 0, 0);
        s.launch(1, 1, 0);
        s.step(400);
        due("15 stopped", s.whole(0, 0, 1), 0);
        due("15 went on", s.whole(0, 31, 1), 31);
    }

    private static void together() {
        LaneBoard x = board(14, 0, 0, 0, 38, 1, 0, 0, 39, 2, 0, 0, 40, 3, 0, 0, 0, 4, 1, 0, 39, 5, 4, 0, 38, 6, 7, 0);
        x.launch(1, 1, 0);
        x.step(400);
        due("16 any", x.whole(0, 0, 1), 1);
        due("16 all", x.whole(0, 1, 2), 0);
        due("16 count", x.whole(0, 0, 3), 31);
        due("16 all", x.whole(0, 0, 5), 1);
        due("16 any of none", x.whole(0, 0, 6), 0);
        LaneBoard same = board(14, 0, 0, 0, 40, 0, 0, 0);
        same.launch(1, 1, 0);
        same.step(400);
        for (int lane = 0; lane < 32; lane++) due("16 as it was", same.whole(0, lane, 0), 31);
        LaneBoard y = board(14, 0, 0, 0, 0, 1, 1, 0, 2, 2, 0, 1, 41, 0, 0, 2, 41, 3, 0, 3);
        y.launch(1, 1, 0);
        y.step(400);
        due("16 shuffled", y.whole(0, 0, 0), 1);
        due("16 shuffled", y.whole(0, 30, 0), 31);
        due("16 no such lane", y.whole(0, 31, 0), -1);
        due("16 of lane 0", y.whole(0, 5, 3), 1);
        LaneBoard z = board(14, 0, 0, 0, 0, 1, 1, 0, 7, 2, 0, 1, 36, 2, 5, 0, 43, 0, 0, 0, 9, 3, 0, 1, 41, 4, 0, 3, 40, 5, 0, 0);
        z.launch(1, 1, 0);
        z.step(400);
        due("16 not in step", z.whole(0, 1, 4), -1);
        due("16 count of those in step", z.whole(0, 1, 5), 16);
        due("16 not done", z.whole(0, 0, 5), 0);
    }

    private static void fences() {
        LaneBoard x = board(15, 0, 0, 0, 36, 0, 3, 0, 37, 0, 4, 0, 42, 0, 0, 0, 42, 0, 0, 0, 0, 7, 9, 0);
        // GROUP 0 comes to the FENCE 4 at once, GROUP 1 to the FENCE 3, then to 4.
        x.launch(1, 2, 0);
        x.rule(1, 0);
        x.step(4);
        due("14 waits", x.group(0, 4), 1);
        due("14 at the fence", x.group(0, 0), 4);
        x.step(2);
        due("14 not yet", x.group(1, 4), 0);
        x.step(1);
        due("14 whichever fence", x.group(0, 4), 0);
        due("14 behind it", x.group(0, 0), 5);
        due("14 behind it", x.group(1, 0), 4);
        finish(x);
        due("13 over", x.told(0), 2);
        due("16 behind", x.whole(1, 3, 7), 9);
        LaneBoard y = board(42, 0, 0, 0);
        y.launch(2, 2, 0);
        due("12 a fence as the last act", finish(y), 4);
        due("13 over", y.told(0), 2);
        due("13 acts", y.told(10), 4);
        LaneBoard z = board(14, 0, 0, 0, 36, 0, 3, 0, 42, 0, 0, 0, 42, 0, 0, 0);
        z.launch(1, 1, 0);
        z.step(3);
        due("14 stuck", z.group(0, 4), 2);
        due("14 at the fence", z.group(0, 0), 2);
        due("14 in step", z.group(0, 1), 1);
        LaneBoard w = board(14, 0, 0, 0, 36, 0, 4, 0, 42, 0, 0, 0, 0, 1, 1, 0);
        w.launch(1, 1, 0);
        w.step(400);
        due("14 those that ended need not come", w.whole(0, 0, 1), 1);
        due("13 over", w.told(0), 2);
    }

    private static void fenceOpenedByAnEnd() {
        LaneBoard x = board(15, 0, 0, 0, 36, 0, 4, 0, 42, 0, 0, 0, 43, 0, 0, 0, 5, 0, 0, 7);
        x.launch(1, 2, 0);
        x.rule(1, 0);
        x.step(3);
        due("14 waits", x.group(0, 4), 1);
        x.step(2);
        due("14 waits", x.group(0, 4), 1);
        x.step(1);
        due("14 failed", x.group(1, 4), 3);
        due("14 the failed one is waited for no more", x.group(0, 4), 0);
        due("14 behind it", x.group(0, 0), 3);
        x.step(1);
        due("13 over", x.told(0), 2);
        LaneBoard y = board(15, 0, 0, 0, 36, 0, 3, 0, 42, 0, 0, 0);
        y.launch(1, 3, 0);
        y.rule(1, 0);
        y.step(3);
        due("14 waits", y.group(0, 4), 1);
        y.step(4);
        due("14 both others ended: it went on, and ended", y.group(0, 4), 4);
        due("13 over", y.told(0), 2);
    }

    private static void places() {
        LaneBoard x = board(16, 0, 0, 0, 36, 0, 3, 0, 37, 0, 2, 0);
        // BLOCK 0 never ends; the others end as soon as they are done.
        x.launch(4, 3, 0);
        x.step(1);
        due("14 two blocks of three", x.group(5, 6), 1);
        due("14 not a third", x.group(6, 6), 0);
        x.rule(2, 0);
        x.step(5);
        due("14 block 1 has not ended", x.group(6, 6), 0);
        due("14 groups 4 and 5 have", x.group(4, 4), 4);
        x.step(1);
        due("14 group 3 has", x.group(3, 4), 4);
        due("14 the next comes at the beginning of the tick", x.group(6, 6), 0);
        x.step(1);
        due("14 now", x.group(8, 6), 1);
        due("14 not the one behind", x.group(9, 6), 0);
        finish(x);
        due("13 spent", x.told(0), 4);
        due("13 ended", x.told(4), 9);
        due("13 idle", x.told(2), 0);
    }

    private static void costs() {
        LaneBoard x = board(14, 0, 0, 0, 0, 1, 8, 0, 4, 2, 0, 1, 25, 3, 0, 2, 14, 3, 0, 0, 2, 3, 3, 3, 30, 4, 0, 3, 0, 4, 32, 0);
        x.row(0, 0, 256);
        x.launch(1, 1, 64);
        x.step(4);
        due("14 eight lines", x.group(0, 5), 4 + 24);
        due("13 cost", x.told(11), 24);
        x.step(24);
        due("13 idle", x.told(2), 24);
        x.step(3);
        due("14 two cells in each bank", x.group(0, 5), 31 + 1);
        due("13 cost", x.told(11), 25);
        LaneBoard y = board(14, 0, 0, 0, 0, 1, 33, 0, 31, 0, 0, 0, 31, 0, 0, 1, 32, 0, 0, 1, 29, 0, 0, 1);
        y.row(0, 2, 64);
        y.launch(1, 1, 64);
        finish(y);
        due("13 unlike banks, one cell: nothing; one line", y.told(11), 3);
        LaneBoard z = board(14, 0, 0, 0, 0, 1, 31, 0, 12, 1, 0, 1, 10, 0, 1, 1, 10, 1, 0, 1, 36, 1, 7, 0, 0, 1, 33, 0,
            30, 2, 0, 1);
        z.launch(1, 1, 64);
        z.step(400);
        due("13 one of a bank each", z.told(11), 0);
        LaneBoard last = board(0, 1, 63, 0, 30, 2, 0, 1);
        last.launch(1, 1, 64);
        last.step(400);
        due("13 the last cell alone", last.told(11), 0);
        due("13 over", z.told(0), 2);
    }

    private static void wholes() {
        LaneBoard x = board(14, 0, 0, 0, 15, 1, 0, 0, 16, 2, 0, 0, 17, 3, 0, 0, 0, 4, -9, 0, 1, 5, 4, 0);
        x.launch(3, 2, 0);
        finish(x);
        due("16 lane", x.whole(3, 7, 0), 7);
        due("16 group in the block", x.whole(3, 7, 1), 1);
        due("16 block", x.whole(3, 7, 2), 1);
        due("16 groups of a block", x.whole(3, 7, 3), 2);
        due("16 set", x.whole(5, 31, 4), -9);
        due("16 move", x.whole(5, 31, 5), -9);
        due("16 unknown", x.whole(6, 0, 0), UNKNOWN);
        due("16 unknown", x.whole(-1, 0, 0), UNKNOWN);
        due("16 unknown", x.whole(0, 32, 0), UNKNOWN);
        due("16 unknown", x.whole(0, -1, 9), UNKNOWN);
        due("16 outside", x.whole(0, 0, 8), OUTSIDE);
        due("16 outside", x.whole(0, 0, -1), OUTSIDE);
    }

    private static void sums() {
        int[][] pairs = {{7, 3}, {-7, 3}, {Integer.MIN_VALUE, -1}, {Integer.MAX_VALUE, 33}, {-1, 31}, {5, 5}, {0, -4}};
        for (int[] p : pairs) {
            int b = p[0], c = p[1];
            int[] want = {b + c, b - c, b * c, b / c, b % c, b & c, b | c, b ^ c, b << c, b >> c, b < c ? 1 : 0, b == c ? 1 : 0};
            for (int op = 2; op <= 13; op++) {
                LaneBoard x = board(0, 1, b, 0, 0, 2, c, 0, op, 0, 1, 2);
                x.launch(1, 1, 0);
                x.step(3);
                due("16 op " + op + " of " + b + ", " + c, x.whole(0, 17, 0), want[op - 2]);
            }
        }
    }

    private static void reals() {
        LaneBoard x = board(0, 0, 7, 0, 18, 0, 0, 0, 0, 0, -2, 0, 18, 1, 0, 0, 22, 2, 0, 1, 24, 3, 2, 0,
            19, 3, 2, 0, 23, 4, 2, 3, 23, 5, 3, 2, 20, 0, 1, 0, 21, 1, 1, 1);
        x.launch(1, 1, 0);
        x.step(400);
        dueF("17 quotient", x.float0(0, 9, 2), -3.5f);
        due("16 cut", x.whole(0, 9, 3), -3);
        dueF("17 sum", x.float0(0, 9, 3), 3.5f);
        due("16 less", x.whole(0, 9, 4), 1);
        due("16 not less", x.whole(0, 9, 5), 0);
        dueF("17 difference", x.float0(0, 9, 0), -9);
        dueF("17 product", x.float0(0, 9, 1), 4);
        dueF("17 refused", x.float0(1, 0, 0), 0);
        dueF("17 refused", x.float0(0, 32, 0), 0);
        dueF("17 refused", x.float0(0, 0, 4), 0);
        dueF("17 refused", x.float0(0, 0, -1), 0);
        dueF("17 refused", x.float0(-1, 0, 0), 0);
    }

    /** f0 = 1 / 0, f1 = -1 / 0, f2 = 0; then one sum more. */
    private static LaneBoard endless(int op, int b, int c) {
        LaneBoard x = board(0, 0, 1, 0, 18, 0, 0, 0, 22, 0, 0, 2, 0, 0, -1, 0, 18, 1, 0, 0, 22, 1, 1, 2, op, 3, b, c, 24, 1, 3, 0);
        x.launch(1, 1, 0);
        x.step(400);
        return x;
    }

    private static void endlessReals() {
        due("16 beyond ints", endless(19, 0, 0).whole(0, 0, 1), Integer.MAX_VALUE);
        due("16 beyond ints", endless(20, 1, 0).whole(0, 0, 1), Integer.MIN_VALUE);
        due("16 beyond ints", endless(21, 0, 1).whole(0, 0, 1), Integer.MIN_VALUE);
        due("16 a number by no end", endless(22, 2, 0).whole(0, 0, 1), 0);
        int[][] unreal = {{19, 0, 1}, {19, 1, 0}, {20, 0, 0}, {20, 1, 1}, {21, 0, 2}, {21, 2, 1}, {22, 0, 1}, {22, 1, 1}, {22, 2, 2}};
        for (int[] u : unreal) due("13 unreal " + u[0], endless(u[0], u[1], u[2]).told(9), 6);
        int[][] fine = {{19, 0, 2}, {19, 1, 1}, {20, 0, 1}, {20, 2, 2}, {21, 0, 0}, {21, 2, 2}, {22, 0, 2}, {22, 2, 1}};
        for (int[] f : fine) due("13 real " + f[0], endless(f[0], f[1], f[2]).told(9), 0);
    }

    private static void own() {
        LaneBoard x = board(14, 0, 0, 0, 0, 1, 3, 0, 34, 0, 0, 1, 33, 2, 0, 1, 35, 0, 0, 3, 0, 1, 16, 0, 35, 0, 0, 1, 0, 1, 15, 0,
            34, 0, 0, 1);
        x.launch(1, 1, 0);
        due("18 four at first", x.own(0, 0, NONE), 4);
        due("18 all 0", x.own(0, 31, 3), 0);
        due("18 not a fifth", x.own(0, 0, 4), OUTSIDE);
        x.step(4);
        due("18 written", x.own(0, 9, 3), 9);
        due("16 read", x.whole(0, 9, 2), 9);
        x.step(1);
        due("18 none left", x.own(0, 9, NONE), 0);
        due("18 none left", x.own(0, 9, 0), OUTSIDE);
        x.step(2);
        due("18 sixteen", x.own(0, 9, NONE), 16);
        due("18 all 0", x.own(0, 9, 3), 0);
        x.step(2);
        due("18 the last", x.own(0, 30, 15), 30);
        due("18 outside", x.own(0, 0, 16), OUTSIDE);
        due("18 outside", x.own(0, 0, -2), OUTSIDE);
        due("18 unknown", x.own(1, 0, NONE), UNKNOWN);
        due("18 unknown", x.own(0, 32, 0), UNKNOWN);
        due("18 unknown", x.own(0, -1, 99), UNKNOWN);
    }

    private static void shared() {
        LaneBoard x = board(14, 0, 0, 0, 31, 0, 0, 7, 16, 1, 0, 0, 0, 2, 1, 0, 2, 3, 1, 2, 32, 3, 0, 2, 30, 4, 0, 2);
        x.launch(2, 2, 2);
        finish(x);
        due("19 the last lane's", x.shared(0, 0), 31);
        due("19 64 ones", x.shared(0, 1), 64);
        due("19 64 twos", x.shared(1, 1), 128);
        due("16 what the cell was", x.whole(0, 5, 3), 5);
        due("19 outside", x.shared(0, 2), OUTSIDE);
        due("19 outside", x.shared(1, -1), OUTSIDE);
        due("19 unknown", x.shared(2, 0), UNKNOWN);
        due("19 unknown", x.shared(-1, 9), UNKNOWN);
    }

    private static void dueFailure(String what, LaneBoard x, int failure) {
        x.launch(1, 1, 4);
        x.step(400);
        due("13 " + what, x.told(9), failure);
        due("21 " + what, x.alone(0, 0), failure);
    }

    private static void failures() {
        int[] sorts = {0, 1, 2, 3};
        for (int sort : sorts) {
            for (int op = 25; op <= 29; op++) {
                LaneBoard x = board(op, 0, 0, 0);
                dueFailure("nothing", x, 1);
                x.row(0, sort, 1);
                boolean suits = op == 27 || op == 28 ? sort == 3 : op == 29 ? sort == 2 : sort < 3;
                dueFailure("cast of sort " + sort + " by " + op, x, suits ? 0 : 2);
                x.row(0, sort, 0);
                dueFailure("place of sort " + sort + " by " + op, x, suits ? 3 : 2);
            }
        }
        for (int op = 30; op <= 34; op++) {
            dueFailure("place -1", board(0, 1, -1, 0, op, 0, 0, 1), 3);
            dueFailure("place 4", board(0, 1, 4, 0, op, 0, 0, 1), 3);
            dueFailure("place 3", board(0, 1, 3, 0, op, 0, 0, 1), 0);
        }
        dueFailure("size", board(0, 0, -1, 0, 35, 0, 0, 0), 4);
        dueFailure("zero", board(5, 0, 0, 0), 5);
        dueFailure("zero", board(6, 0, 0, 0), 5);
        dueFailure("unreal", board(22, 0, 0, 0), 6);
        dueFailure("room", board(0, 0, 17, 0, 35, 0, 0, 0), 7);
        dueFailure("room enough", board(0, 0, 16, 0, 35, 0, 0, 0), 0);
    }

    private static void failuresInOrder() {
        LaneBoard x = board(15, 0, 0, 0, 36, 0, 3, 0, 37, 0, 2, 0, 5, 1, 1, 1);
        x.launch(1, 3, 0);
        x.rule(2, 0);
        x.step(400);
        due("13 two failed", x.told(5), 2);
        due("13 the first was", x.told(6), 2);
        due("13 lane", x.told(7), 0);
        due("13 act", x.told(8), 3);
        due("13 failure", x.told(9), 5);
        due("13 others go on", x.told(0), 1);
        due("13 ended", x.told(4), 2);
        due("14 failed", x.group(1, 4), 3);
        due("14 the end", x.group(1, 0), 4);
        due("14 all its lanes", x.group(1, 3), 32);
        due("14 no ways", x.group(1, 2), 0);
    }

    private static void partFailed() {
        LaneBoard x = board(14, 0, 0, 0, 26, 0, 0, 0, 0, 7, 1, 0);
        x.row(0, 2, 40);
        x.row(1, 2, 5);
        x.launch(1, 1, 0);
        x.step(400);
        x.wipe();
        addAll(x, 14, 0, 0, 0, 26, 0, 1, 0, 0, 7, 1, 0);
        x.launch(1, 1, 0);
        x.step(2);
        due("13 lane 5", x.told(7), 5);
        due("8 what was done stays", x.cell(1, 4), 4);
        due("13 five touches", x.told(13), 5);
        due("13 one line", x.told(11), 3);
        due("13 two acts", x.told(10), 2);
        due("14 free", x.group(0, 5), 5);
        due("13 over at once", x.told(0), 2);
        due("16 not done", x.whole(0, 0, 7), 0);
    }

    private static void dueRace(LaneBoard x, int i, int... want) {
        for (int what = 0; what < 8; what++) due("20 race " + i + ", " + what, x.race(i, what), want[what]);
    }

    private static void races() {
        LaneBoard x = board(14, 0, 0, 0, 0, 1, 2, 0, 6, 2, 0, 1, 26, 0, 0, 2);
        x.row(0, 2, 4);
        x.launch(1, 1, 0);
        x.step(400);
        due("13 pairs in two cells", x.told(12), 2 * 16 * 15 / 2);
        dueRace(x, 0, 0, 0, 3, 0, 2, 3, 0, 0);
        dueRace(x, 1, 0, 1, 3, 0, 3, 3, 0, 1);
        dueRace(x, 2, 0, 0, 3, 0, 4, 3, 0, 0);
        dueRace(x, 3, 0, 2, 3, 0, 4, 3, 0, 0);
        dueRace(x, 4, 0, 1, 3, 0, 5, 3, 0, 1);
        due("20 the last", x.race(19, 0), 0);
        due("20 no more", x.race(20, 0), UNKNOWN);
        due("20 none", x.race(-1, 0), UNKNOWN);
        due("20 outside", x.race(0, 8), OUTSIDE);
        due("20 outside", x.race(0, -1), OUTSIDE);
        LaneBoard y = board(25, 0, 0, 7, 29, 0, 0, 7);
        y.row(0, 2, 4);
        y.launch(1, 1, 0);
        y.step(400);
        due("13 loads, adds, one group: none", y.told(12), 0);
        due("20 none", y.race(0, 9), UNKNOWN);
    }

    private static void racesOrdered() {
        // Two GROUPS add, pass a FENCE, and load: of one BLOCK nothing is a RACE, of two each load is, with each add.
        LaneBoard x = board(0, 0, 1, 0, 29, 0, 0, 7, 42, 0, 0, 0, 25, 0, 0, 7);
        x.row(0, 2, 1);
        x.launch(1, 2, 0);
        finish(x);
        due("13 a fence orders", x.told(12), 0);
        x.launch(2, 1, 0);
        finish(x);
        due("13 no fence orders blocks", x.told(12), 2 * 32 * 32);
        LaneBoard y = board(0, 0, 1, 0, 29, 0, 0, 7, 25, 0, 0, 7);
        y.row(0, 2, 1);
        y.launch(1, 2, 0);
        y.rule(1, 0);
        finish(y);
        due("13 one block, no fence", y.told(12), 2 * 32 * 32);
        dueRace(y, 0, 1, 0, 1, 0, 0, 2, 0, 0);
    }

    private static void racesOfSharedCells() {
        LaneBoard x = board(31, 0, 0, 7, 30, 1, 0, 7, 32, 2, 0, 7);
        x.launch(2, 1, 1);
        finish(x);
        due("13 stores of each block", x.told(12), 2 * 32 * 31 / 2);
        dueRace(x, 0, 0, 0, 0, 0, 1, 0, NONE, 0);
        LaneBoard y = board(15, 0, 0, 0, 31, 0, 0, 7);
        y.launch(2, 2, 1);
        finish(y);
        due("13 of one block alone", y.told(12), 2 * 64 * 63 / 2);
    }

    private static void racesBehindTheThousandth() {
        LaneBoard x = board(25, 0, 0, 7, 26, 0, 0, 7);
        x.row(0, 2, 1);
        x.launch(4, 4, 0);
        x.rule(1, 0);
        finish(x);
        due("13 touches", x.told(13), 16 * 64);
        // The 1000 that are looked at: of 15 GROUPS all, of the last its loads and 8 of its stores; each pair of two
        // GROUPS with a store counts, and each pair of stores of one ACT.
        int pairs = 0;
        int[] loads = new int[16], stores = new int[16];
        for (int g = 0; g < 16; g++) {
            loads[g] = 32;
            stores[g] = g < 15 ? 32 : 8;
            pairs += stores[g] * (stores[g] - 1) / 2;
            for (int e = 0; e < g; e++) pairs += loads[e] * stores[g] + stores[e] * loads[g] + stores[e] * stores[g];
        }
        due("13 pairs", x.told(12), pairs);
    }

    private static void alone() {
        LaneBoard x = board(14, 0, 0, 0, 0, 1, 1, 0, 29, 1, 0, 7, 40, 2, 0, 0, 41, 3, 0, 0, 41, 4, 1, 1, 42, 0, 0, 0,
            15, 5, 0, 0, 16, 6, 0, 0, 39, 7, 0, 0);
        x.row(0, 2, 2);
        x.put(0, 0, 100);
        x.launch(2, 2, 1);
        x.put(0, 0, 500);
        finish(x);
        due("8 all added", x.cell(0, 0), 628);
        int digest = x.digest();
        due("21 ended", x.alone(3, 9), 0);
        due("21 nothing is changed", x.digest(), digest);
        due("21 nothing is changed", x.cell(0, 0), 628);
        due("22 the row as it began, and one more", x.left(0, 0), 101);
        int[] want = {9, 100, 1, 9, -1, 1, 1, 1};
        for (int i = 0; i < 8; i++) due("22 whole " + i, x.left(6, i), want[i]);
        due("21 lane 0", x.alone(0, 0), 0);
        due("22 count of none", x.left(6, 2), 0);
        due("22 all of none", x.left(6, 7), 0);
        due("21 unknown", x.alone(4, 0), UNKNOWN);
        due("21 unknown", x.alone(0, 32), UNKNOWN);
        due("21 unknown", x.alone(-1, 0), UNKNOWN);
        due("21 unknown", x.alone(0, -1), UNKNOWN);
        due("22 a refused one leaves what was left", x.left(6, 2), 0);
        LaneBoard y = board(0, 0, 1, 0, 2, 1, 1, 0, 37, 0, 1, 0);
        y.launch(1, 1, 0);
        due("21 spent", y.alone(0, 0), 8);
        due("22 of 2000 acts 1000 were sums", y.left(6, 1), 1000);
        // 1 + 3 * 666 ACTS, then THE END: 1999 in all; with one ACT more ahead 2000, with two 2001.
        for (int more = 0; more <= 2; more++) {
            LaneBoard z = new LaneBoard();
            for (int k = 0; k < more; k++) z.code(0, 7, 0, 0);
            addAll(z, 0, 0, 666, 0, 0, 2, -1, 0, 2, 0, 0, 2, 36, 0, more + 1, 0);
            z.launch(1, 1, 0);
            due("21 with " + (1999 + more) + " acts", z.alone(0, 31), more < 2 ? 0 : 8);
        }
    }

    private static void left() {
        LaneBoard x = board(0, 0, 3, 0, 31, 0, 0, 0, 34, 0, 0, 0, 26, 0, 1, 0, 0, 1, -5, 0, 18, 1, 1, 0, 28, 1, 3, 0);
        due("22 before one", x.left(6, 0), 0);
        due("22 before one", x.left(0, 0), 0);
        due("22 which", x.left(9, 0), OUTSIDE);
        due("22 which", x.left(-1, 0), OUTSIDE);
        due("22 no such place", x.left(6, 8), OUTSIDE);
        x.row(1, 0, 8);
        x.row(3, 3, 5);
        x.launch(1, 1, 5);
        due("21 alone", x.alone(0, 1), 0);
        due("22 row", x.left(1, 3), 3);
        due("22 floats", x.left(3, 3), -5);
        due("22 own", x.left(7, 3), 3);
        due("22 shared", x.left(8, 3), 3);
        due("22 place", x.left(1, 8), OUTSIDE);
        due("22 place", x.left(1, -1), OUTSIDE);
        due("22 missing", x.left(0, 0), OUTSIDE);
        due("22 own", x.left(7, 4), OUTSIDE);
        due("22 shared", x.left(8, 5), OUTSIDE);
        due("22 whole", x.left(6, 8), OUTSIDE);
        due("8 nothing is changed", x.cell(1, 3), 0);
        finish(x);
        x.row(1, 2, NONE);
        x.wipe();
        due("22 it stays", x.left(1, 3), 3);
    }

    private static void differ() {
        LaneBoard x = board(15, 0, 0, 0, 26, 0, 4, 1);
        x.row(4, 2, 3);
        x.row(0, 2, 1);
        due("23 no launch", x.differ(0, 0), STATE);
        due("23 outside first", x.differ(4, 0), OUTSIDE);
        x.launch(1, 2, 0);
        finish(x);
        due("8 the later one's", x.cell(4, 0), 1);
        due("23 the same order", x.differ(0, 0), NONE);
        due("23 the greatest first: 0 is the later one", x.differ(2, 0), 256 * 4);
        due("8 nothing is changed", x.cell(4, 0), 1);
        due("13 nothing is changed", x.told(1), 4);
        due("23 outside", x.differ(-1, 0), OUTSIDE);
        x.put(4, 2, 5);
        x.put(4, 0, 0);
        due("23 rows as they are now", x.differ(2, 0), 256 * 4 + 2);
        x.put(0, 0, 1);
        due("23 the first", x.differ(2, 0), 0);
        LaneBoard y = board(0, 0, -1, 0, 18, 0, 0, 0, 21, 1, 0, 1, 28, 1, 3, 7);
        y.row(3, 3, 1);
        y.launch(1, 1, 0);
        finish(y);
        y.put(3, 0, 0);
        due("23 as numbers: 0 is -0", y.differ(0, 0), NONE);
        LaneBoard z = board(0, 0, 1, 0, 18, 0, 0, 0, 0, 0, 2, 0, 18, 1, 0, 0, 22, 0, 0, 1, 28, 0, 3, 7);
        z.row(3, 3, 1);
        z.launch(1, 1, 0);
        due("23 a half is not 0", z.differ(0, 0), 768);
    }

    private static void other() {
        LaneBoard x = board(15, 0, 0, 0, 5, 1, 1, 0, 26, 0, 0, 7);
        for (int what = 0; what < 4; what++) due("24 before one", x.other(what), 0);
        due("24 outside", x.other(4), OUTSIDE);
        due("24 outside", x.other(-1), OUTSIDE);
        x.row(0, 2, 1);
        x.launch(1, 2, 0);
        x.differ(1, 0);
        due("24 over", x.other(0), 2);
        due("24 ticks", x.other(1), 5);
        due("24 pairs", x.other(2), 32 * 31 / 2);
        due("24 failed", x.other(3), 1);
        due("23 refused", x.differ(9, 0), OUTSIDE);
        due("24 it stays", x.other(1), 5);
        x.launch(1, 1, 0);
        finish(x);
        x.wipe();
        x.code(37, 0, 0, 0);
        due("24 it stays", x.other(3), 1);
        x.launch(1, 1, 0);
        due("23 spent", x.differ(3, 4), NONE);
        due("24 spent", x.other(0), 4);
        due("24 ticks", x.other(1), 2000);
        due("24 pairs", x.other(2), 0);
        due("24 failed", x.other(3), 0);
    }

    private static void keepAndBack() {
        LaneBoard x = board(14, 0, 0, 0, 36, 0, 4, 0, 31, 0, 0, 7, 34, 0, 0, 7, 29, 0, 0, 7, 18, 0, 0, 0, 37, 0, 1, 0);
        x.row(0, 2, 2);
        x.launch(2, 2, 1);
        due("26 nothing is kept", x.back(), STATE);
        x.rule(3, 99);
        x.step(25);
        due("25 keep", x.keep(), 1);
        int[] then = new int[14];
        for (int what = 0; what < 14; what++) then[what] = x.told(what);
        int digest = x.digest(), ways = x.group(0, 2), lanes = x.way(0, 0, 1), race = x.race(0, 4);
        x.step(50);
        int later = x.digest(), laterIdle = x.told(2), laterPairs = x.told(12), laterCost = x.told(11);
        for (int turn = 0; turn < 2; turn++) {
            due("26 back", x.back(), 1);
            for (int what = 0; what < 14; what++) due("26 told " + what, x.told(what), then[what]);
            due("26 digest", x.digest(), digest);
            due("26 ways", x.group(0, 2), ways);
            due("26 lanes", x.way(0, 0, 1), lanes);
            due("26 race", x.race(0, 4), race);
            x.step(50);
            due("26 it goes on as it did", x.digest(), later);
            due("26 idle", x.told(2), laterIdle);
            due("26 pairs", x.told(12), laterPairs);
            due("26 cost", x.told(11), laterCost);
        }
        finish(x);
        x.wipe();
        x.code(5, 0, 0, 0);
        x.row(0, 3, 7);
        due("25 no launch", x.keep(), STATE);
        due("26 back, the code too", x.back(), 1);
        due("26 code", x.judge(), NONE);
        due("26 it goes on", x.code(0, 0, 0, 0), STATE);
        x.step(50);
        due("26 rows and code", x.digest(), later);
        LaneBoard y = board(2, 0, 0, 1);
        y.launch(1, 1, 0);
        y.keep();
        y.step(1);
        y.keep();
        y.back();
        due("25 in place of what was kept", y.told(1), 1);
        LaneBoard z = board(29, 0, 0, 7, 0, 1, 4, 0, 29, 1, 0, 7);
        z.row(0, 2, 1);
        z.put(0, 0, 8);
        z.launch(1, 1, 0);
        z.step(400);
        z.keep();
        z.wipe();
        z.row(0, 2, 3);
        z.code(0, 0, 0, 0);
        z.launch(1, 1, 0);
        z.back();
        due("26 the beginning is kept too", z.differ(0, 0), NONE);
        due("26 the beginning is kept too", z.alone(0, 0), 0);
        due("22 left", z.left(0, 0), 12);
    }

    /** RACES with TOUCHES from before a keep(), of the same ACT and TIME or not, after a back(). */
    private static void keepTouches() {
        LaneBoard x = board(15, 0, 0, 0, 31, 0, 0, 7, 42, 0, 0, 0, 31, 0, 0, 7, 42, 0, 0, 0, 30, 0, 0, 7);
        x.launch(2, 2, 1);
        finish(x);
        int pairs = x.told(12);
        due("13 stores at two times", pairs, 2 * 2 * 64 * 63 / 2);
        for (int ticks = 1; ticks < x.told(1); ticks++) {
            x.launch(2, 2, 1);
            x.step(ticks);
            x.keep();
            finish(x);
            x.back();
            finish(x);
            due("26 pairs, kept after " + ticks, x.told(12), pairs);
            x.launch(1, 1, 1);
            finish(x);
            due("13 other touches", x.told(12), 2 * 32 * 31 / 2);
            x.back();
            finish(x);
            due("26 pairs, kept after " + ticks, x.told(12), pairs);
        }
    }

    /** The ACTS done of kept TOUCHES are not those of the LAUNCH in between, which touched in its third. */
    private static void keepActsDone() {
        LaneBoard x = board(31, 0, 0, 7, 0, 1, 1, 0, 31, 0, 0, 7);
        x.launch(1, 1, 1);
        x.step(1);
        x.keep();
        finish(x);
        x.wipe();
        addAll(x, 0, 1, 1, 0, 0, 1, 1, 0, 31, 0, 0, 7);
        x.launch(1, 1, 1);
        finish(x);
        x.back();
        finish(x);
        due("26 pairs of each act by itself", x.told(12), 2 * 32 * 31 / 2);
    }

    private static void digest() {
        LaneBoard x = board(14, 3, 0, 0);
        x.row(1, 0, 2);
        x.put(1, 1, 255);
        x.row(3, 3, 1);
        x.put(3, 0, 6);
        int d = 7;
        d = 31 * d - 1;
        d = 31 * d + 2;
        d = 31 * d;
        d = 31 * d - 1;
        d = 31 * d - 1;
        d = 31 * d + 1;
        d = 31 * d + 6;
        d = 31 * d - 1;
        d = 31 * d - 1;
        due("27 rows", x.digest(), d);
        x.launch(1, 2, 0);
        x.step(1);
        for (int g = 0; g < 2; g++) {
            for (int lane = 0; lane < 32; lane++) for (int i = 0; i < 8; i++) d = 31 * d + (g == 0 && i == 3 ? lane : 0);
        }
        due("27 wholes", x.digest(), d);
    }

    /** Without ACTS the LANES are at THE END from the beginning; that the LAUNCH is OVER is asked behind a TICK. */
    private static void emptyCode() {
        LaneBoard x = new LaneBoard();
        due("10 launch", x.launch(2, 4, 0), 1);
        due("13 goes on", x.told(0), 1);
        due("13 all have ended", x.told(4), 8);
        due("14 ended", x.group(7, 4), 4);
        due("12 one tick", x.step(400), 1);
        due("13 over", x.told(0), 2);
        due("13 idle", x.told(2), 1);
        due("21 ended", x.alone(3, 3), 0);
        due("23 none", x.differ(1, 0), NONE);
    }
}
