import java.util.Random;

/** Random runs of calls on a LaneBoard and on its Twin: each answer must be the same. The seeds are fixed. */
public final class TwinTest {
    private static int wrong = 0;
    private static Random dice;
    private static LaneBoard x;
    private static Twin y;
    private static StringBuilder told;

    public static void main(String[] args) {
        int runs = args.length > 0 ? Integer.parseInt(args[0]) : 1500;
        int from = args.length > 1 ? Integer.parseInt(args[1]) : 0;
        for (int seed = from; seed < from + runs && wrong == 0; seed++) run(seed);
        System.out.println(wrong == 0 ? runs + " runs, all answers alike" : "answers differ");
        if (wrong != 0) System.exit(1);
    }

    private static void run(int seed) {
        dice = new Random(seed);
        x = new LaneBoard();
        y = new Twin();
        told = new StringBuilder();
        int calls = 0;
        while (calls < 500 && wrong == 0) {
            int before = calls;
            if (dice.nextInt(4) > 0) calls += setUp();
            int more = 10 + dice.nextInt(60);
            for (int k = 0; k < more && calls < 500 && wrong == 0; k++, calls++) {
                anyCall();
                if (dice.nextInt(10) == 0) sweep();
            }
            if (calls == before) calls++;
        }
        if (wrong != 0) System.out.println("seed " + seed + ":\n" + told);
    }

    private static void due(String call, long got, long want) {
        told.append(call).append(" -> ").append(got).append('\n');
        if (got == want) return;
        wrong++;
        told.append("  due is ").append(want).append('\n');
    }

    private static void dueF(String call, float got, float want) {
        told.append(call).append(" -> ").append(got).append('\n');
        if (got == want) return;
        wrong++;
        told.append("  due is ").append(want).append('\n');
    }

    private static int upTo(int n) {
        return dice.nextInt(n + 1);
    }

    /** Mostly 0 .. n, now and then just outside or far away. */
    private static int about(int n) {
        int r = dice.nextInt(40);
        if (r == 0) return -1;
        if (r == 1) return n + 1;
        if (r == 2) return dice.nextInt();
        return upTo(n);
    }

    private static int setUp() {
        int calls = 0;
        finish();
        doWipe();
        calls += 6;
        for (int g = 0; g < 6; g++) {
            if (dice.nextInt(3) == 0) continue;
            int[] lengths = {NONE, 0, 1, 4, 32, 33, 64, 100, 256};
            int sort = dice.nextInt(3) == 0 ? upTo(3) : g % 4 == 3 ? 3 : 2;
            doRow(g, sort, lengths[dice.nextInt(lengths.length)]);
            calls++;
            for (int k = upTo(4); k > 0; k--, calls++) doPut(g, upTo(8), dice.nextInt(9) == 0 ? dice.nextInt() : upTo(40) - 5);
        }
        int manner = dice.nextInt(6);
        calls += manner == 0 ? guardedCode() : manner < 4 ? tameCode() : looseCode();
        doLaunch(1 + upTo(5), 1 + upTo(3), dice.nextInt(4) == 0 ? 0 : upTo(64));
        if (dice.nextBoolean()) doRule(upTo(3), dice.nextInt());
        return calls + 2;
    }

    private static final int NONE = -1;

    private static void finish() {
        for (int k = 0; k < 5; k++) doStep(400);
    }

    /** Random ACTS, most of them fit to be done; the first give places that exist. */
    private static int looseCode() {
        int n = 2 + upTo(dice.nextInt(5) == 0 ? 80 : 25);
        int kind = upTo(5);
        for (int i = 0; i < n; i++) {
            if (i < 2) doCode(14 + upTo(2), upTo(7), 0, 0);
            else if (i < 4) doCode(0, upTo(7), upTo(34) - 1, 0);
            else randomAct(i, n, kind);
        }
        return n;
    }

    /** ACTS that seldom FAIL: WHOLES 5 to 7 are places and stay so, and 30 of 31 FENCES stand outside of BRANCHES. */
    private static int tameCode() {
        int n = 8 + upTo(30);
        doRow(0, 2, 64);
        doRow(1, upTo(2), 256);
        doRow(3, 3, 40);
        doCode(14, 6, 0, 0);
        doCode(15 + upTo(1), 7, 0, 0);
        doCode(0, 5, upTo(3) == 0 ? 33 : 3, 0);
        doCode(10 - upTo(3), 6, 6, 7);
        doCode(14 + upTo(2), 1, 0, 0);
        doCode(0, 2, 1 + upTo(7), 0);
        doCode(7, 3, 1, 2);
        for (int i = 7; i < n; i++) tameAct(i, n);
        return n + 3;
    }

    private static void tameAct(int i, int n) {
        int r = dice.nextInt(100), place = 5 + upTo(2), any = upTo(4);
        if (r < 14) doCode(36, any, Math.min(n, i + 1 + upTo(5)), 0);
        else if (r < 16) doCode(36, any, upTo(n), 0);
        else if (r < 28) doCode(25 + upTo(1), any, upTo(1), place);
        else if (r < 34) doCode(27 + upTo(1), upTo(3), 3, 5 + 2 * upTo(1));
        else if (r < 40) doCode(29, any, 0, place);
        else if (r < 52) doCode(30 + upTo(2), any, 0, place);
        else if (r < 56) doCode(33 + upTo(1), any, 0, dice.nextInt(4) == 0 ? 6 : 7);
        else if (r < 57) doCode(35, 0, 0, any);
        else if (r < 65) doCode(42, 0, 0, 0);
        else if (r < 66) doCode(43, 0, 0, 0);
        else if (r < 72) doCode(38 + upTo(3), any, upTo(4), upTo(7));
        else if (r < 80) doCode(dice.nextInt(4) == 0 ? 18 + 4 * upTo(1) : 19 + upTo(2), upTo(3), upTo(3), upTo(3));
        else if (r < 86) doCode(14 + upTo(3), any, 0, 0);
        else if (r < 90) doCode(0, any, upTo(40) - 2, 0);
        else doCode(dice.nextBoolean() ? 7 + upTo(6) : 1 + upTo(3), any, upTo(7), upTo(7));
    }

    private static void randomAct(int i, int n, int kind) {
        int r = dice.nextInt(100);
        if (r < 18 + kind * 3) doCode(36, upTo(7), dice.nextInt(3) > 0 ? Math.min(n, i + 1 + upTo(6)) : upTo(n), 0);
        else if (r < 35) doCode(25 + upTo(4), upTo(dice.nextInt(8) == 0 ? 7 : 3), dice.nextInt(3) == 0 ? 3 : upTo(5), upTo(7));
        else if (r < 45) doCode(30 + upTo(5), upTo(7), 0, upTo(7));
        else if (r < 48) doCode(37, 0, dice.nextInt(3) > 0 ? Math.min(n, i + 1 + upTo(5)) : upTo(n), 0);
        else if (r < 52) doCode(42 + (dice.nextInt(4) == 0 ? 1 : 0), 0, 0, 0);
        else if (r < 60) doCode(38 + upTo(3), upTo(7), upTo(7), upTo(7));
        else if (r < 66) doCode(18 + upTo(6), upTo(3), upTo(3), upTo(3));
        else if (r < 74) doCode(14 + upTo(3), upTo(7), 0, 0);
        else if (r < 80) doCode(0, upTo(7), dice.nextInt(5) == 0 ? dice.nextInt() : upTo(40) - 2, 0);
        else if (r < 99) doCode(1 + upTo(12), upTo(7), upTo(7), upTo(7));
        else doCode(about(43), about(7), about(7), about(7));
    }

    /** LANES that leave a loop one after another, so that STACKS grow deep, and floats that grow endless. */
    private static int guardedCode() {
        int more = upTo(6);
        doCode(14, 0, 0, 0);
        doCode(0, 1, upTo(5) + 1, 0);
        doCode(0, 2, 1, 0);
        doCode(18, 0, 0, 0);
        doCode(2, 3, 3, 2);
        doCode(21, 0, 0, 0);
        doCode(6, 4, 0, 3);
        doCode(36, 4, 9 + more, 0);
        for (int i = 0; i < more; i++) doCode(dice.nextBoolean() ? 36 : 2, 3 + upTo(2), 3 + upTo(6), upTo(7));
        doCode(32, 5, 0, 1);
        doCode(12, 6, 3, 0);
        doCode(36, 6, 4, 0);
        doCode(26, 3, upTo(5), upTo(1));
        doCode(42, 0, 0, 0);
        doCode(20, 1, 0, 0);
        return 14 + more;
    }

    private static void anyCall() {
        int r = dice.nextInt(100);
        if (r < 2) doCode(about(43), about(7), about(7), about(7));
        else if (r < 3) doWipe();
        else if (r < 5) due("judge()", x.judge(), y.judge());
        else if (r < 10) doMeet(about(Math.max(1, y.code.size())));
        else if (r < 11) doRow(about(5), about(3), dice.nextInt(3) == 0 ? -2 + upTo(260) : upTo(64));
        else if (r < 14) doPut(about(5), about(12), dice.nextInt(3) == 0 ? dice.nextInt() : upTo(60));
        else if (r < 18) doCell(about(5), about(dice.nextInt(4) == 0 ? 256 : 12));
        else if (r < 20) doLaunch(about(5) + 1, about(3) + 1, about(64));
        else if (r < 23) doRule(about(3), dice.nextInt());
        else if (r < 37) doStep(dice.nextInt(3) == 0 ? about(400) : about(12));
        else if (r < 47) doTold(about(13));
        else if (r < 60) doGroup(about(y.launch == null ? 3 : y.launch.groups.size() - 1), about(6));
        else if (r < 67) doWay(about(y.launch == null ? 3 : y.launch.groups.size() - 1), about(4), about(2));
        else if (r < 76) laneCall(about(y.launch == null ? 3 : y.launch.groups.size() - 1), about(31));
        else if (r < 80) doRace(dice.nextInt(3) == 0 ? about(19) : upTo(2), about(7));
        else lateCall(r);
    }

    private static void laneCall(int n, int lane) {
        int r = dice.nextInt(4), i = about(r == 0 ? 7 : 3);
        String args = "(" + n + ", " + lane + ", " + i + ")";
        if (r == 0) due("whole" + args, x.whole(n, lane, i), y.whole(n, lane, i));
        else if (r == 1) dueF("float0" + args, x.float0(n, lane, i), y.float0(n, lane, i));
        else if (r == 2) due("own" + args, x.own(n, lane, i), y.own(n, lane, i));
        else due("shared(" + n + ", " + lane + ")", x.shared(n, lane), y.shared(n, lane));
    }

    private static void lateCall(int r) {
        int n = about(y.launch == null ? 3 : y.launch.groups.size() - 1), lane = about(31), seed = dice.nextInt();
        int rule = about(3), which = about(8), place = about(dice.nextInt(4) == 0 ? 256 : 7);
        if (r < 83) due("alone(" + n + ", " + lane + ")", x.alone(n, lane), y.alone(n, lane));
        else if (r < 88) due("left(" + which + ", " + place + ")", x.left(which, place), y.left(which, place));
        else if (r < 89) due("differ(" + rule + ", " + seed + ")", x.differ(rule, seed), y.differ(rule, seed));
        else if (r < 92) due("other(" + rule + ")", x.other(rule), y.other(rule));
        else if (r < 94) due("keep()", x.keep(), y.keep());
        else if (r < 96) due("back()", x.back(), y.back());
        else due("digest()", x.digest(), y.digest());
    }

    private static void doCode(int op, int a, int b, int c) {
        due("code(" + op + ", " + a + ", " + b + ", " + c + ")", x.code(op, a, b, c), y.code(op, a, b, c));
    }

    private static void doWipe() {
        due("wipe()", x.wipe(), y.wipe());
    }

    private static void doMeet(int i) {
        due("meet(" + i + ")", x.meet(i), y.meet(i));
    }

    private static void doRow(int g, int sort, int n) {
        due("row(" + g + ", " + sort + ", " + n + ")", x.row(g, sort, n), y.row(g, sort, n));
    }

    private static void doPut(int g, int place, int v) {
        due("put(" + g + ", " + place + ", " + v + ")", x.put(g, place, v), y.put(g, place, v));
    }

    private static void doCell(int g, int place) {
        due("cell(" + g + ", " + place + ")", x.cell(g, place), y.cell(g, place));
        dueF("real(" + g + ", " + place + ")", x.real(g, place), y.real(g, place));
    }

    private static void doLaunch(int blocks, int groups, int shared) {
        due("launch(" + blocks + ", " + groups + ", " + shared + ")", x.launch(blocks, groups, shared),
            y.launch(blocks, groups, shared));
    }

    private static void doRule(int rule, int seed) {
        due("rule(" + rule + ", " + seed + ")", x.rule(rule, seed), y.rule(rule, seed));
    }

    private static void doStep(int n) {
        due("step(" + n + ")", x.step(n), y.step(n));
    }

    /** Every fact of the LAUNCH; calls of this kind change nothing, so they may be more than 512. */
    private static void sweep() {
        for (int what = 0; what < 14; what++) doTold(what);
        int groups = y.launch == null ? 1 : y.launch.groups.size();
        for (int n = 0; n < groups; n++) {
            for (int what = 0; what < 7; what++) doGroup(n, what);
            int ways = Math.max(0, y.group(n, 2));
            for (int i = 0; i < ways; i++) for (int what = 0; what < 3; what++) doWay(n, i, what);
        }
        for (int i = 0; i < 21; i++) for (int what = 0; what < 8; what++) doRace(i, what);
        due("digest()", x.digest(), y.digest());
    }

    private static void doTold(int what) {
        due("told(" + what + ")", x.told(what), y.told(what));
    }

    private static void doGroup(int n, int what) {
        due("group(" + n + ", " + what + ")", x.group(n, what), y.group(n, what));
    }

    private static void doWay(int n, int i, int what) {
        due("way(" + n + ", " + i + ", " + what + ")", x.way(n, i, what), y.way(n, i, what));
    }

    private static void doRace(int i, int what) {
        due("race(" + i + ", " + what + ")", x.race(i, what), y.race(i, what));
    }
}
