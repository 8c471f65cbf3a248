import java.util.Random;

/** No call throws or answers a NaN, for any numbers in any state; nor behind the 512th call. The seeds are fixed. */
public final class WildTest {
    private static final int MIN = Integer.MIN_VALUE, MAX = Integer.MAX_VALUE;
    /** The ends of ints, every bound of the document and what stands beside it, and what would wrap when multiplied. */
    private static final int[] EDGES = {
        MIN, MIN + 1, -1000004, -1000001, -65536, -257, -33, -32, -2, -1, 0, 1, 2, 3, 4, 5, 6, 7, 8, 9, 13, 14, 15, 16,
        17, 19, 20, 23, 24, 31, 32, 33, 43, 44, 63, 64, 65, 89, 90, 91, 255, 256, 257, 400, 401, 999, 1000, 1999, 2000,
        65535, 1 << 23, 1 << 24, 1 << 26, 1 << 27, 1 << 28, 1 << 29, 1 << 30, MAX - 1, MAX};

    private static Random dice;

    public static void main(String[] args) {
        int runs = args.length > 0 ? Integer.parseInt(args[0]) : 1500;
        int from = args.length > 1 ? Integer.parseInt(args[1]) : 0;
        for (int seed = from; seed < from + runs; seed++) {
            dice = new Random(seed);
            LaneBoard x = new LaneBoard();
            for (int k = 0; k < 700; k++) {
                int kind = dice.nextInt(42);
                try {
                    if (call(x, kind)) continue;
                    System.out.println("seed " + seed + ", call " + k + " of kind " + kind + " answered a NaN");
                } catch (RuntimeException e) {
                    System.out.println("seed " + seed + ", call " + k + " of kind " + kind + " threw " + e);
                }
                System.exit(1);
            }
        }
        System.out.println(runs + " runs, no call threw");
    }

    private static int any() {
        if (dice.nextInt(3) == 0) return EDGES[dice.nextInt(EDGES.length)];
        return dice.nextInt(5) == 0 ? dice.nextInt() : dice.nextInt(9);
    }

    private static boolean call(LaneBoard x, int kind) {
        switch (kind) {
            case 0: if (dice.nextInt(9) == 0) x.code(any(), any(), any(), any()); return true;
            case 1: if (dice.nextInt(4) == 0) x.wipe(); return true;
            case 2: if (x.judge() != LaneBoard.NONE) x.wipe(); return true;
            case 3: x.meet(any()); return true;
            case 4: x.row(any(), any(), any()); return true;
            case 5: x.put(any(), any(), any()); return true;
            case 6: x.cell(any(), any()); return true;
            case 7: return isNumber(x.real(any(), any()));
            case 8: x.launch(any(), any(), any()); return true;
            case 9: x.rule(any(), any()); return true;
            case 10: x.step(any()); return true;
            case 11: x.told(any()); return true;
            case 12: x.group(any(), any()); return true;
            case 13: x.way(any(), any(), any()); return true;
            case 14: x.whole(any(), any(), any()); return true;
            case 15: return isNumber(x.float0(any(), any(), any()));
            case 16: x.own(any(), any(), any()); return true;
            case 17: x.shared(any(), any()); return true;
            case 18: x.race(any(), any()); return true;
            case 19: x.alone(any(), any()); return true;
            case 20: x.left(any(), any()); return true;
            case 21: x.differ(any(), any()); return true;
            case 22: x.other(any()); return true;
            case 23: x.keep(); return true;
            case 24: x.back(); return true;
            case 25: x.digest(); return true;
            default: return likelyCall(x, kind);
        }
    }

    /** Without calls that are mostly taken the others would seldom meet a LAUNCH. */
    private static boolean likelyCall(LaneBoard x, int kind) {
        if (kind < 35) likelyAct(x);
        else if (kind < 37) x.row(dice.nextInt(6), dice.nextInt(4), dice.nextInt(4) == 0 ? 256 : dice.nextInt(257));
        else if (kind < 39) x.launch(1 + dice.nextInt(6), 1 + dice.nextInt(4), dice.nextInt(65));
        else x.step(400);
        return true;
    }

    /** Numbers set come from the edges, and REALS grow endless by products, since those are what ACTS can fail by. */
    private static void likelyAct(LaneBoard x) {
        int r = dice.nextInt(8);
        if (r < 2) x.code(0, dice.nextInt(8), any(), 0);
        else if (r == 2) x.code(18 + dice.nextInt(5), dice.nextInt(2), dice.nextInt(2), dice.nextInt(2));
        else if (r == 3) x.code(25 + dice.nextInt(11), dice.nextInt(4), dice.nextInt(6), dice.nextInt(8));
        else x.code(dice.nextInt(44), dice.nextInt(4), dice.nextInt(4), dice.nextInt(8));
    }

    private static boolean isNumber(float f) {
        return f == f;
    }
}
