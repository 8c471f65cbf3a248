/** The sentences of the document's parts 2 and 3, LAUNCHES and TICKS, that name an edge; each stands above its test. */
public final class LaunchEdgeTest extends Check {
    public static void main(String[] args) {
        sizes();
        numberedThrough();
        zeroAtFirst();
        rowsAsTheyAreTold();
        firstWay();
        endingAtOnce();
        moreLanesLast();
        asManyLanes();
        onlyThoseLeftAreCounted();
        atTheMeetAlready();
        noParting();
        meetIsTheEnd();
        waysGoTogether();
        endedLanesAreInNoWay();
        deepest();
        noActs();
        leastLaneFirst();
        failureOfSeveral();
        failurePlaces();
        failedGroup();
        failedFirst();
        othersGoOn();
        fenceStuck();
        fenceAndEndedLanes();
        fenceOfOneGroup();
        fenceWhichever();
        fenceNotForOtherBlocks();
        fenceAndStuckGroups();
        fenceAndEndedGroups();
        fenceAtTheEnd();
        eightPlaces();
        placesAreFree();
        placesOfFailedAndWaiting();
        freeFrom();
        idle();
        linesAsked();
        banksAsked();
        eachActByItself();
        otherCosts();
        costOfAFailure();
        ruleRound();
        ruleLeastAndGreatest();
        ruleBySeed();
        overInTime();
        spentInTime();
        stuckInTime();
        notStuckWhileABlockFits();
        notOverWhileABlockIsOut();
        end();
    }

    /** "A LAUNCH has BLOCKS (1 .. 6) of GROUPS (1 .. 4) of 32 LANES, and for each BLOCK so many shared cells (0 .. 64)." */
    private static void sizes() {
        for (int blocks = -1; blocks <= 8; blocks++) {
            for (int groups = -1; groups <= 6; groups++) {
                boolean fine = blocks >= 1 && blocks <= 6 && groups >= 1 && groups <= 4;
                LaneBoard x = board(SET, 0, 1, 0);
                due("launch " + blocks + ", " + groups, x.launch(blocks, groups, 0), fine ? 1 : OUTSIDE);
                due("groups", x.told(3), fine ? blocks * groups : 0);
                if (!fine) continue;
                due("the last group", x.group(blocks * groups - 1, 0), 0);
                due("none behind it", x.group(blocks * groups, 0), UNKNOWN);
                due("lane 31", x.whole(0, 31, 0), 0);
                due("no lane 32", x.whole(0, 32, 0), UNKNOWN);
            }
        }
        for (int cells : new int[] {MIN, -1, 0, 1, 63, 64, 65, MAX}) {
            LaneBoard x = board(SET, 0, 1, 0);
            boolean fine = cells >= 0 && cells <= 64;
            due("shared cells " + cells, x.launch(6, 1, cells), fine ? 1 : OUTSIDE);
            if (!fine) continue;
            due("the last", x.shared(5, cells - 1), cells > 0 ? 0 : OUTSIDE);
            due("none behind it", x.shared(5, cells), OUTSIDE);
        }
        for (int v : new int[] {MIN, MAX}) {
            due("blocks " + v, board(SET, 0, 1, 0).launch(v, 1, 0), OUTSIDE);
            due("groups " + v, board(SET, 0, 1, 0).launch(1, v, 0), OUTSIDE);
        }
    }

    /** "GROUPS are numbered through all BLOCKS in order." */
    private static void numberedThrough() {
        for (int size = 1; size <= 4; size++) {
            LaneBoard x = ran(board(BLOCK, 0, 0, 0, GROUP, 1, 0, 0), 6, size, 0);
            for (int n = 0; n < 6 * size; n++) {
                due("block of " + n, x.whole(n, 0, 0), n / size);
                due("in its block " + n, x.whole(n, 0, 1), n % size);
            }
        }
    }

    /** "At first WHOLES, REALS, shared, OWN cells are 0": also in a LAUNCH in place of one before. */
    private static void zeroAtFirst() {
        LaneBoard x = board(SET, 7, 5, 0, REAL, 3, 7, 0, REAL, 0, 7, 0, S_STORE, 7, 0, 6, SET, 0, 16, 0, NEW, 0, 0, 0, SET, 1, 3, 0,
            O_STORE, 7, 0, 1, O_STORE, 7, 0, 6);
        ran(x, 6, 4, 64);
        due("it was so", x.own(23, 31, 3), 5);
        x.launch(6, 4, 64);
        for (int n = 0; n < 24; n += 23) {
            int lane = n == 0 ? 0 : 31;
            for (int i = 0; i < 8; i++) due("whole", x.whole(n, lane, i), 0);
            for (int i = 0; i < 4; i++) dueF("real", x.float0(n, lane, i), 0);
            due("own cells", x.own(n, lane, NONE), 4);
            for (int i = 0; i < 4; i++) due("own", x.own(n, lane, i), 0);
        }
        for (int i = 0; i < 64; i++) due("shared", x.shared(5, i), 0);
        due("none failed, none done", x.told(10), 0);
    }

    /** "ROWS are as they are told": a LAUNCH begins with what is there, and leaves it there. */
    private static void rowsAsTheyAreTold() {
        LaneBoard x = board(SET, 0, 1, 0, ADD, 0, 0, 7);
        x.row(0, 2, 1);
        x.put(0, 0, 10);
        ran(x, 1, 1, 0);
        due("added", x.cell(0, 0), 42);
        ran(x, 1, 1, 0);
        due("added to that", x.cell(0, 0), 74);
        x.put(0, 0, 0);
        due("put, and the launch is still there", x.told(0), 2);
        ran(x, 1, 1, 0);
        due("added to what was put", x.cell(0, 0), 32);
    }

    /** "At first: ACT 0, all LANES, over nowhere." */
    private static void firstWay() {
        LaneBoard x = board(SET, 0, 1, 0);
        x.launch(2, 2, 0);
        for (int n = 0; n < 4; n++) {
            due("act", x.way(n, 0, 0), 0);
            due("lanes", x.way(n, 0, 1), -1);
            due("over", x.way(n, 0, 2), NONE);
            due("the only one", x.way(n, 1, 0), UNKNOWN);
            due("ways", x.group(n, 2), 1);
            due("in step", x.group(n, 1), -1);
        }
    }

    private static String stack(LaneBoard x, int n) {
        StringBuilder s = new StringBuilder();
        for (int i = 0; i < x.group(n, 2); i++) {
            s.append(i == 0 ? "" : " ").append(x.way(n, i, 0)).append(':').append(Integer.toHexString(x.way(n, i, 1)));
            s.append('>').append(x.way(n, i, 2));
        }
        return s.toString();
    }

    /** Of one GROUP, after so many TICKS, as act:lanes>over, the lowest first. */
    private static void dueStack(String what, int ticks, String want, int... acts) {
        LaneBoard x = board(acts);
        x.launch(1, 1, 0);
        due(what + ": ticks", x.step(ticks), ticks);
        dueText(what, stack(x, 0), want);
        due(what + ": ended", x.group(0, 4), want.isEmpty() ? 4 : 0);
    }

    /** "LANES whose way is THE END, END at once." */
    private static void endingAtOnce() {
        dueStack("those that go end", 2, "2:1>-1", LANE, 0, 0, 0, BRANCH, 0, 3, 0, SET, 1, 1, 0);
        dueStack("those that stay end", 2, "0:fffffffe>-1", LANE, 0, 0, 0, BRANCH, 0, 0, 0);
        dueStack("both end", 2, "", LANE, 0, 0, 0, BRANCH, 0, 2, 0);
        dueStack("none goes: all end", 1, "", BRANCH, 0, 0, 0);
        dueStack("all go: all end", 2, "", SET, 0, 1, 0, BRANCH, 0, 3, 0, SET, 1, 1, 0);
    }

    /** LANES below k (turned: above k) go to 6, the others to 4; they meet at 7. */
    private static int[] parting(int k, boolean turned) {
        return new int[] {LANE, 0, 0, 0, SET, 1, k, 0, LESS, 2, turned ? 1 : 0, turned ? 0 : 1, BRANCH, 2, 6, 0,
            SET, 3, 1, 0, JUMP, 0, 7, 0, SET, 3, 2, 0, SET, 4, 1, 0};
    }

    /** "those of both ways come on top of it, over at THE MEET, that with more LANES ... last" */
    private static void moreLanesLast() {
        dueStack("15 go", 4, "7:ffffffff>-1 6:7fff>7 4:ffff8000>7", parting(15, false));
        dueStack("17 go", 4, "7:ffffffff>-1 4:fffe0000>7 6:1ffff>7", parting(17, false));
        dueStack("1 goes", 4, "7:ffffffff>-1 6:1>7 4:fffffffe>7", parting(1, false));
        dueStack("31 go", 4, "7:ffffffff>-1 4:80000000>7 6:7fffffff>7", parting(31, false));
        dueStack("none goes", 4, "4:ffffffff>-1", parting(0, false));
        dueStack("all go", 4, "6:ffffffff>-1", parting(32, false));
        dueStack("the upper 17 go", 4, "7:ffffffff>-1 4:7fff>7 6:ffff8000>7", parting(14, true));
        dueStack("the upper 15 go", 4, "7:ffffffff>-1 6:fffe0000>7 4:1ffff>7", parting(16, true));
    }

    /** "(of as many that with the least LANE)" */
    private static void asManyLanes() {
        dueStack("the lower 16 go", 4, "7:ffffffff>-1 4:ffff0000>7 6:ffff>7", parting(16, false));
        dueStack("the upper 16 go", 4, "7:ffffffff>-1 6:ffff0000>7 4:ffff>7", parting(15, true));
        // LANE 31 ENDS first: of 31 the 16 go that have not the least LANE.
        dueStack("16 of 31 go", 7, "10:7fffffff>-1 7:7fff>10 9:7fff8000>10", LANE, 0, 0, 0, SET, 1, 31, 0, EQUAL, 2, 0, 1,
            BRANCH, 2, 11, 0, SET, 1, 14, 0, LESS, 2, 1, 0, BRANCH, 2, 9, 0, SET, 3, 1, 0, JUMP, 0, 10, 0, SET, 3, 2, 0, SET, 4, 1, 0);
        dueStack("15 of 31 go", 7, "10:7fffffff>-1 9:7fff>10 7:7fff8000>10", LANE, 0, 0, 0, SET, 1, 31, 0, EQUAL, 2, 0, 1,
            BRANCH, 2, 11, 0, SET, 1, 15, 0, LESS, 2, 0, 1, BRANCH, 2, 9, 0, SET, 3, 1, 0, JUMP, 0, 10, 0, SET, 3, 2, 0, SET, 4, 1, 0);
        dueStack("the odd ones go", 4, "7:ffffffff>-1 6:aaaaaaaa>7 4:55555555>7", LANE, 0, 0, 0, SET, 1, 1, 0, AND, 2, 0, 1,
            BRANCH, 2, 6, 0, SET, 3, 1, 0, JUMP, 0, 7, 0, SET, 3, 2, 0, SET, 4, 1, 0);
    }

    /** "When a BRANCH parts those that are left": LANES that ENDED are counted no more. */
    private static void onlyThoseLeftAreCounted() {
        // LANES 0 to 7 END; of the other 24 those below 20 go: 12 and 12; below 19: 11 and 13.
        for (int k = 19; k <= 21; k++) {
            int going = -1 << 8 & (1 << k) - 1, staying = -1 << k;
            String goes = " 9:" + Integer.toHexString(going) + ">10", stays = " 7:" + Integer.toHexString(staying) + ">10";
            dueStack("below " + k, 7, "10:ffffff00>-1" + (k >= 20 ? stays + goes : goes + stays), LANE, 0, 0, 0, SET, 1, 8, 0,
                LESS, 2, 0, 1, BRANCH, 2, 11, 0, SET, 1, k, 0, LESS, 2, 0, 1, BRANCH, 2, 9, 0, SET, 3, 1, 0, JUMP, 0, 10, 0,
                SET, 3, 2, 0, SET, 4, 1, 0);
        }
    }

    /** "one whose ACT is THE MEET already comes not" */
    private static void atTheMeetAlready() {
        dueStack("those that go", 2, "3:ffffffff>-1 2:1>3", LANE, 0, 0, 0, BRANCH, 0, 3, 0, SET, 1, 1, 0, SET, 2, 1, 0);
        dueStack("those that stay", 3, "3:ffffffff>-1 1:fffffffe>3", LANE, 0, 0, 0, SET, 1, 1, 0, BRANCH, 0, 1, 0,
            SET, 2, 1, 0);
        dueStack("both", 2, "2:ffffffff>-1", LANE, 0, 0, 0, BRANCH, 0, 2, 0, SET, 1, 1, 0);
    }

    /** A BRANCH by which all LANES that are left go one way parts nothing. */
    private static void noParting() {
        dueStack("all stay", 1, "1:ffffffff>-1", BRANCH, 0, 2, 0, SET, 0, 1, 0, SET, 0, 1, 0);
        dueStack("all go", 2, "3:ffffffff>-1", SET, 0, 1, 0, BRANCH, 0, 3, 0, SET, 0, 1, 0, SET, 0, 1, 0);
        dueStack("in an arm all go to its meet", 4, "4:ffffffff>-1", LANE, 0, 0, 0, BRANCH, 0, 4, 0, EQUAL, 1, 0, 0,
            BRANCH, 1, 4, 0, SET, 2, 1, 0);
    }

    /** "THE END, if no way leads there": then the WAY below waits at THE END, and its LANES have not ENDED. */
    private static void meetIsTheEnd() {
        int[] acts = {LANE, 0, 0, 0, BRANCH, 0, 3, 0, JUMP, 0, 2, 0, JUMP, 0, 3, 0};
        dueStack("both turn for ever", 2, "4:ffffffff>-1 2:1>4 3:fffffffe>4", acts);
        dueStack("and ever", 90, "4:ffffffff>-1 2:1>4 3:fffffffe>4", acts);
        dueStack("both to one act that turns for ever", 2, "3:ffffffff>-1 2:1>3 2:fffffffe>3", LANE, 0, 0, 0,
            BRANCH, 0, 2, 0, JUMP, 0, 2, 0);
        LaneBoard x = board(acts);
        x.launch(1, 1, 0);
        x.step(50);
        due("none has ended", x.group(0, 3), 0);
    }

    /** "a WAY that is at the ACT where it is over, or has no LANES, goes from the top": one behind the other, at once. */
    private static void waysGoTogether() {
        int[] acts = {LANE, 0, 0, 0, SET, 1, 8, 0, LESS, 2, 0, 1, SET, 1, 4, 0, LESS, 3, 0, 1, BRANCH, 2, 8, 0, SET, 4, 1, 0,
            JUMP, 0, 10, 0, BRANCH, 3, 10, 0, SET, 4, 2, 0, SET, 5, 1, 0};
        dueStack("two arms", 6, "10:ffffffff>-1 8:ff>10 6:ffffff00>10", acts);
        dueStack("one is over", 8, "10:ffffffff>-1 8:ff>10", acts);
        dueStack("the inner one is over where the outer is", 9, "10:ffffffff>-1 10:ff>10 9:f0>10", acts);
        dueStack("both go", 10, "10:ffffffff>-1", acts);
        // With STOP in the inner arm they meet at THE END alone: three WAYS without LANES go at once.
        acts[4 * 9] = STOP;
        dueStack("the first arm ended", 9, "11:ff>-1 8:ff>11", acts);
        dueStack("the other parts", 10, "11:ff>-1 11:ff>11 9:f0>11 10:f>11", acts);
        dueStack("of that one arm ended", 11, "11:f0>-1 11:f0>11 9:f0>11", acts);
        dueStack("all ended", 12, "", acts);
    }

    /** "LANES that come to THE END, END (also if their WAY is over there)"; "LANES that ENDED are in no WAY any more." */
    private static void endedLanesAreInNoWay() {
        int[] acts = {LANE, 0, 0, 0, BRANCH, 0, 3, 0, STOP, 0, 0, 0, SET, 1, 1, 0};
        dueStack("parted", 2, "4:ffffffff>-1 2:1>4 3:fffffffe>4", acts);
        dueStack("31 ended at the end, where their way is over", 3, "4:1>-1 2:1>4", acts);
        dueStack("the last stopped", 4, "", acts);
        LaneBoard x = board(acts);
        x.launch(1, 1, 0);
        int[] ended = {0, 0, 31, 32};
        for (int tick = 0; tick < 4; tick++) {
            x.step(1);
            due("ended lanes", x.group(0, 3), ended[tick]);
        }
        due("over at once", x.told(0), 2);
        due("the end", x.group(0, 0), 4);
    }

    /** As many WAYS as there can be: each parting leaves one LANE behind, 31 times, and each arm turns for ever. */
    private static void deepest() {
        LaneBoard x = board(LANE, 0, 0, 0, SET, 2, 1, 0, EQUAL, 3, 0, 1, BRANCH, 3, 6, 0, PLUS, 1, 1, 2, JUMP, 0, 2, 0,
            JUMP, 0, 6, 0);
        x.launch(1, 1, 0);
        for (int k = 0; k < 31; k++) {
            x.step(4);
            due("ways", x.group(0, 2), 2 * k + 3);
            due("lanes in step", Integer.bitCount(x.group(0, 1)), k < 30 ? 31 - k : 1);
        }
        for (int i = 0; i < 63; i++) due("over at the end", x.way(0, i, 2), i == 0 ? NONE : 7);
        due("no more", x.way(0, 63, 0), UNKNOWN);
        due("it goes on", x.step(400), 400);
        due("no more ways", x.group(0, 2), 63);
    }

    /** THE CODE without ACTS: ACT 0 is THE END already; STATES are "asked behind each TICK". */
    private static void noActs() {
        LaneBoard x = new LaneBoard();
        due("launch", x.launch(6, 4, 0), 1);
        due("asked behind a tick only", x.told(0), 1);
        due("one tick", x.step(400), 1);
        due("over", x.told(0), 2);
        due("ended", x.told(4), 24);
        due("no acts", x.told(10), 0);
        due("at the end", x.group(23, 0), 0);
        due("lanes ended", x.group(23, 3), 32);
    }

    /** "An ACT is done for each LANE in STEP, the least first, each seeing what those ahead of it did" */
    private static void leastLaneFirst() {
        LaneBoard x = board(LANE, 0, 0, 0, STORE, 0, 0, 7, S_STORE, 0, 0, 7, SET, 1, 1, 0, ADD, 1, 1, 7, SET, 2, 1, 0,
            S_ADD, 2, 0, 6);
        x.row(0, 2, 1);
        x.row(1, 2, 1);
        ran(x, 1, 1, 1);
        due("the last stays", x.cell(0, 0), 31);
        for (int lane = 0; lane < 32; lane++) {
            due("those ahead", x.whole(0, lane, 1), lane);
            due("those ahead, shared", x.whole(0, lane, 2), 31 + lane);
        }
    }

    /** "FAILURES: 1 NOTHING ..., 2 CAST ..., 3 PLACE ...; of several the first of these." */
    private static void failureOfSeveral() {
        for (int op = LOAD; op <= ADD; op++) {
            for (int place : new int[] {-1, 0, 5, MIN, MAX}) {
                LaneBoard x = board(SET, 7, place, 0, op, 0, 0, 7);
                due("missing ahead of place", ran(x, 1, 1, 0).told(9), 1);
                int unlike = op == F_LOAD || op == F_STORE ? 2 : 3;
                x.row(0, unlike, 5);
                due("cast ahead of place", ran(x, 1, 1, 0).told(9), 2);
                x.row(0, op == F_LOAD || op == F_STORE ? 3 : 2, 5);
                due("place", ran(x, 1, 1, 0).told(9), place == 0 ? 0 : 3);
                x.row(0, unlike, NONE);
                due("missing ahead of cast", ran(x, 1, 1, 0).told(9), 1);
            }
        }
    }

    /** "3 PLACE (no such cell)": in ROWS of 0, 1 and 256 cells. */
    private static void failurePlaces() {
        for (int length : new int[] {0, 1, 32, 256}) {
            for (int place : new int[] {MIN, -1, 0, 1, 31, 32, 255, 256, MAX}) {
                LaneBoard x = board(SET, 7, place, 0, STORE, 7, 2, 7);
                x.row(2, 2, length);
                due("place " + place + " of " + length, ran(x, 1, 1, 0).told(9), place >= 0 && place < length ? 0 : 3);
            }
        }
        due("0 by 0", ran(DIVIDE, 0, 1, 2).told(9), 5);
        due("the rest, too", ran(REST, 0, 1, 2).told(9), 5);
        due("0 by 0 of reals", ran(F_DIVIDE, 0, 1, 2).told(9), 6);
        due("wa stays", ran(SET, 0, 4, 0, DIVIDE, 0, 0, 1).whole(0, 0, 0), 4);
    }

    /** "At the first LANE that FAILS its GROUP is FAILED: it ENDS with all its LANES (what was done stays)" */
    private static void failedGroup() {
        // LANE 5 divides by 0; w3 is what came out for those ahead.
        LaneBoard x = board(LANE, 0, 0, 0, SET, 1, 5, 0, MINUS, 2, 1, 0, SET, 4, 60, 0, DIVIDE, 3, 4, 2, SET, 5, 1, 0);
        x.launch(1, 1, 0);
        due("ticks", x.step(400), 5);
        int[] want = {12, 15, 20, 30, 60, 0, 0};
        for (int lane = 0; lane < 7; lane++) due("lane " + lane, x.whole(0, lane, 3), want[lane]);
        int[] told = {2, 5, 0, 1, 1, 1, 0, 5, 4, 5, 5, 0, 0, 0};
        for (int what = 0; what < 14; what++) due("told " + what, x.told(what), told[what]);
        int[] group = {6, 0, 0, 32, 3, 5, 1};
        for (int what = 0; what < 7; what++) due("group " + what, x.group(0, what), group[what]);
        // In an arm: the LANES of the other arm END, too.
        LaneBoard y = board(LANE, 0, 0, 0, BRANCH, 0, 4, 0, SET, 1, 1, 0, JUMP, 0, 5, 0, DIVIDE, 2, 0, 7, SET, 3, 1, 0);
        ran(y, 1, 1, 0);
        due("lane 1 is the first", y.told(7), 1);
        due("all ended", y.group(0, 3), 32);
        due("lane 0 did nothing more", y.whole(0, 0, 1), 0);
        due("failed", y.group(0, 4), 3);
    }

    /** "the LAUNCH is told FAILED by the first such: GROUP, LANE, ACT, FAILURE" */
    private static void failedFirst() {
        // GROUP 0 FAILS by ZERO at 3, GROUP 1 by SIZE at 5, each with the tick after the other.
        int[] acts = {GROUP, 0, 0, 0, BRANCH, 0, 4, 0, SET, 1, 1, 0, DIVIDE, 1, 1, 7, SET, 1, -1, 0, NEW, 0, 0, 1};
        for (int rule = 0; rule <= 2; rule++) {
            LaneBoard x = board(acts);
            x.launch(1, 2, 0);
            x.rule(rule, 0);
            finish(x);
            boolean zero = rule < 2;
            due("both failed", x.told(5), 2);
            due("group", x.told(6), zero ? 0 : 1);
            due("lane", x.told(7), 0);
            due("act", x.told(8), zero ? 3 : 5);
            due("failure", x.told(9), zero ? 5 : 4);
        }
    }

    /** "others go on" */
    private static void othersGoOn() {
        LaneBoard x = ran(board(GROUP, 0, 0, 0, DIVIDE, 1, 0, 0, SET, 2, 1, 0), 2, 2, 0);
        due("over", x.told(0), 2);
        due("two failed", x.told(5), 2);
        due("all ended", x.told(4), 4);
        for (int n = 0; n < 4; n++) {
            due("group " + n, x.group(n, 4), n % 2 == 0 ? 3 : 4);
            due("went on", x.whole(n, 0, 2), n % 2);
        }
    }

    /** "FENCE: if some LANE of the GROUP that has not ENDED is not in STEP, the GROUP is STUCK: it goes on no more." */
    private static void fenceStuck() {
        LaneBoard x = board(LANE, 0, 0, 0, BRANCH, 0, 3, 0, FENCE, 0, 0, 0, SET, 1, 1, 0);
        x.launch(1, 1, 0);
        due("ticks", x.step(400), 3);
        due("stuck", x.group(0, 4), 2);
        due("the fence is its next act", x.group(0, 0), 2);
        due("lane 0 is in step", x.group(0, 1), 1);
        due("ways stay", x.group(0, 2), 2);
        due("none ended", x.group(0, 3), 0);
        due("the launch is stuck", x.told(0), 3);
        due("no tick more", x.step(400), 0);
        due("nothing failed", x.told(5), 0);
        due("not ended", x.told(4), 0);
        due("31 of 32 in step", ran(LANE, 0, 0, 0, BRANCH, 0, 3, 0, JUMP, 0, 4, 0, FENCE, 0, 0, 0, SET, 1, 1, 0).group(0, 4), 2);
    }

    /** LANES that have ENDED need not be in STEP. */
    private static void fenceAndEndedLanes() {
        // 31 LANES STOP first, then LANE 0 comes to the FENCE; turned: 31 come while LANE 0 has not stopped yet.
        LaneBoard x = board(LANE, 0, 0, 0, BRANCH, 0, 5, 0, FENCE, 0, 0, 0, SET, 1, 1, 0, STOP, 0, 0, 0, STOP, 0, 0, 0);
        ran(x, 1, 1, 0);
        due("over", x.told(0), 2);
        due("lane 0 went on", x.whole(0, 0, 1), 1);
        LaneBoard y = board(LANE, 0, 0, 0, BRANCH, 0, 3, 0, STOP, 0, 0, 0, FENCE, 0, 0, 0, SET, 1, 1, 0);
        ran(y, 1, 1, 0);
        due("stuck", y.told(0), 3);
        due("31 are there", y.group(0, 1), -2);
        LaneBoard z = board(LANE, 0, 0, 0, BRANCH, 0, 4, 0, FENCE, 0, 0, 0, SET, 1, 1, 0);
        ran(z, 1, 1, 0);
        due("those that branched to the end", z.told(0), 2);
        due("lane 0 went on", z.whole(0, 0, 1), 1);
    }

    /** A BLOCK of one GROUP does not wait: all that have not ENDED are there. */
    private static void fenceOfOneGroup() {
        LaneBoard x = board(FENCE, 0, 0, 0, FENCE, 0, 0, 0, SET, 0, 1, 0);
        x.launch(2, 1, 0);
        x.rule(1, 0);
        x.step(1);
        due("it goes on at once", x.group(0, 4), 0);
        due("behind it", x.group(0, 0), 1);
        due("free from the next tick on", x.group(0, 5), 1);
        x.step(1);
        due("behind the second", x.group(0, 0), 2);
        due("in all", x.step(400), 4);
        due("no cost", x.told(11), 0);
    }

    /** "it waits (FENCE is its next ACT as long ...) till all GROUPS of its BLOCK ... wait at a FENCE (whichever)" */
    private static void fenceWhichever() {
        // GROUP n comes to the FENCE 2 + n; the last one opens all.
        LaneBoard x = board(GROUP, 0, 0, 0, BRANCH, 0, 5, 0, FENCE, 0, 0, 0, SET, 7, 1, 0, STOP, 0, 0, 0, SET, 1, 1, 0,
            FENCE, 0, 0, 0, SET, 7, 2, 0);
        x.launch(1, 4, 0);
        x.rule(1, 0);
        x.step(3);
        due("0 waits", x.group(0, 4), 1);
        due("at 2", x.group(0, 0), 2);
        x.step(4);
        due("1 waits", x.group(1, 4), 1);
        due("at 6", x.group(1, 0), 6);
        x.step(7);
        due("3 is ahead of it", x.group(3, 0), 6);
        due("2 waits", x.group(2, 4), 1);
        due("0 waits still", x.group(0, 4), 1);
        x.step(1);
        for (int n = 0; n < 4; n++) {
            due("all go on", x.group(n, 4), 0);
            due("behind it", x.group(n, 0), n == 0 ? 3 : 7);
        }
        finish(x);
        due("over", x.told(0), 2);
        for (int n = 0; n < 4; n++) due("behind", x.whole(n, 31, 7), n == 0 ? 1 : 2);
    }

    /** "all GROUPS of its BLOCK": those of others are not waited for, and not let go. */
    private static void fenceNotForOtherBlocks() {
        LaneBoard x = board(FENCE, 0, 0, 0, SET, 0, 1, 0);
        x.launch(2, 2, 0);
        x.rule(1, 0);
        x.step(1);
        due("0 waits", x.group(0, 4), 1);
        x.step(1);
        due("0 goes on", x.group(0, 4), 0);
        due("1 goes on", x.group(1, 4), 0);
        due("2 was not there", x.group(2, 0), 0);
        x.step(3);
        due("2 waits", x.group(2, 4), 1);
        due("3 does not yet", x.group(3, 4), 0);
        finish(x);
        due("over", x.told(0), 2);
        // The last GROUP of BLOCK 1 waits already when BLOCK 0 goes on, and the first of BLOCK 0 when BLOCK 1 does.
        for (int last = 1; last <= 2; last++) {
            LaneBoard y = board(FENCE, 0, 0, 0, SET, 0, 1, 0);
            y.launch(2, 2, 0);
            y.rule(last, 0);
            y.step(1);
            y.rule(3 - last, 0);
            y.step(2);
            int waits = last == 1 ? 0 : 3;
            for (int n = 0; n < 4; n++) due("group " + n, y.group(n, 4), n == waits ? 1 : 0);
            due("at the fence", y.group(waits, 0), 0);
        }
        // The first GROUP of each BLOCK comes to its FENCE a round ahead of the second.
        LaneBoard z = board(GROUP, 0, 0, 0, BRANCH, 0, 4, 0, FENCE, 0, 0, 0, STOP, 0, 0, 0, SET, 1, 1, 0, FENCE, 0, 0, 0, SET, 2, 1, 0);
        z.launch(2, 2, 0);
        z.step(12);
        for (int n = 0; n < 4; n++) due("group " + n, z.group(n, 4), n % 2 == 0 ? 1 : 0);
        z.step(1);
        for (int n = 0; n < 4; n++) due("block 0 goes on, group " + n, z.group(n, 4), n == 2 ? 1 : 0);
        due("block 1 is where it was", z.group(2, 0), 2);
    }

    /** A STUCK GROUP has not ENDED and does not wait: the others of its BLOCK wait for ever. */
    private static void fenceAndStuckGroups() {
        int[] acts = {GROUP, 0, 0, 0, BRANCH, 0, 5, 0, LANE, 1, 0, 0, BRANCH, 1, 5, 0, FENCE, 0, 0, 0, FENCE, 0, 0, 0, SET, 2, 1, 0};
        for (int rule = 1; rule <= 2; rule++) {
            LaneBoard x = board(acts);
            x.launch(1, 2, 0);
            x.rule(rule, 0);
            due("ticks", finish(x), 8);
            due("stuck", x.told(0), 3);
            due("0 is stuck", x.group(0, 4), 2);
            due("at 4", x.group(0, 0), 4);
            due("1 waits", x.group(1, 4), 1);
            due("at 5", x.group(1, 0), 5);
            due("all acts count", x.told(10), 8);
        }
        LaneBoard y = board(acts);
        y.launch(2, 2, 0);
        due("two blocks", finish(y), 16);
        due("stuck", y.told(0), 3);
    }

    /** "all GROUPS of its BLOCK that have not ENDED": one that ENDS, or FAILS, lets the others go. */
    private static void fenceAndEndedGroups() {
        for (int op : new int[] {STOP, DIVIDE}) {
            LaneBoard x = board(GROUP, 0, 0, 0, BRANCH, 0, 4, 0, FENCE, 0, 0, 0, JUMP, 0, 5, 0, op, 1, 1, 7, SET, 2, 1, 0);
            x.launch(1, 3, 0);
            x.rule(1, 0);
            x.step(8);
            due("0 waits", x.group(0, 4), 1);
            due("1 is through", x.group(1, 4), op == STOP ? 4 : 3);
            x.step(1);
            due("0 goes on with the end of 2", x.group(0, 4), 0);
            due("behind it", x.group(0, 0), 3);
            finish(x);
            due("over", x.told(0), 2);
            due("it went on", x.whole(0, 3, 2), 1);
        }
        // Those that ENDED before the FENCE is come to are not waited for, either.
        LaneBoard y = board(GROUP, 0, 0, 0, BRANCH, 0, 4, 0, FENCE, 0, 0, 0, SET, 2, 1, 0);
        y.launch(1, 4, 0);
        y.rule(2, 0);
        y.step(9);
        due("0 does not wait", y.group(0, 4), 0);
        due("behind it", y.group(0, 0), 3);
    }

    /** A FENCE as the last ACT: the GROUPS END with the opening, at once. */
    private static void fenceAtTheEnd() {
        LaneBoard x = board(FENCE, 0, 0, 0);
        x.launch(1, 4, 0);
        x.step(3);
        due("three wait", x.group(2, 4), 1);
        due("none ended", x.told(4), 0);
        due("lanes are in step as long", x.group(0, 1), -1);
        x.step(1);
        due("all ended", x.told(4), 4);
        due("over", x.told(0), 2);
        for (int n = 0; n < 4; n++) due("the end", x.group(n, 0), 1);
    }

    private static int groupsIn(LaneBoard x) {
        int in = 0;
        for (int n = 0; n < x.told(3); n++) in += x.group(n, 6);
        return in;
    }

    /** "THE PROCESSOR has 8 PLACES ... BLOCKS come in, in order, as long as the next one's GROUPS fit" */
    private static void eightPlaces() {
        int[] want = {0, 6, 8, 6, 8};
        for (int size = 1; size <= 4; size++) {
            LaneBoard x = board(JUMP, 0, 0, 0);
            x.launch(6, size, 0);
            due("none at first", groupsIn(x), 0);
            x.step(0);
            due("no tick, none", groupsIn(x), 0);
            x.step(1);
            due("of " + size, groupsIn(x), want[size]);
            for (int n = 0; n < 6 * size; n++) due("in order", x.group(n, 6), n < want[size] ? 1 : 0);
            x.step(100);
            due("no more", groupsIn(x), want[size]);
        }
    }

    /** "a BLOCK's PLACES are free when all its GROUPS have ENDED" */
    private static void placesAreFree() {
        LaneBoard x = board(SET, 0, 1, 0);
        x.launch(3, 4, 0);
        x.rule(2, 0);
        x.step(3);
        due("4 has not ended", x.group(8, 6), 0);
        x.step(1);
        due("at the beginning of the next tick only", x.group(8, 6), 0);
        x.step(1);
        due("now", x.group(11, 6), 1);
        due("it was picked in that very tick", x.group(11, 4), 4);
        due("was in", x.group(4, 6), 1);
        // Sizes of 3: two BLOCKS are in, and of the two PLACES left none can be used.
        LaneBoard y = board(SET, 0, 1, 0);
        y.launch(4, 3, 0);
        y.rule(1, 0);
        y.step(2);
        due("two of three ended", groupsIn(y), 6);
        y.step(1);
        due("all three", groupsIn(y), 6);
        y.step(1);
        due("the next block", groupsIn(y), 9);
    }

    /** A FAILED GROUP has ENDED; one that waits or is STUCK has not. */
    private static void placesOfFailedAndWaiting() {
        LaneBoard x = board(BLOCK, 0, 0, 0, DIVIDE, 1, 1, 0, JUMP, 0, 2, 0);
        x.launch(3, 4, 0);
        x.rule(1, 0);
        x.step(8);
        due("block 0 failed", x.told(5), 4);
        due("not yet", x.group(8, 6), 0);
        x.step(1);
        due("its places are taken", x.group(8, 6), 1);
        // GROUP 0 of each BLOCK waits for the others, which turn for ever.
        LaneBoard y = board(GROUP, 0, 0, 0, BRANCH, 0, 1, 0, FENCE, 0, 0, 0);
        y.launch(3, 4, 0);
        y.step(400);
        due("they wait", y.group(4, 4), 1);
        due("no place", y.group(8, 6), 0);
    }

    /** "An ACT that is done in TICK n makes its GROUP FREE from TICK n + 1 + COST on." */
    private static void freeFrom() {
        LaneBoard x = board(LANE, 0, 0, 0, LOAD, 1, 0, 0, SET, 2, 1, 0);
        x.row(0, 2, 32);
        x.launch(1, 1, 0);
        due("at first", x.group(0, 5), 0);
        x.step(1);
        due("tick 0", x.group(0, 5), 1);
        x.step(1);
        due("tick 1, cost 3", x.group(0, 5), 5);
        x.step(3);
        due("not free in 2, 3, 4", x.whole(0, 0, 2), 0);
        due("goes on", x.told(0), 1);
        due("idle", x.told(2), 3);
        x.step(1);
        due("free in 5", x.whole(0, 0, 2), 1);
        due("ticks", x.told(1), 6);
    }

    /** "is there none, the TICK is IDLE" */
    private static void idle() {
        LaneBoard x = board(LOAD, 1, 0, 7, LOAD, 1, 0, 7);
        x.row(0, 2, 1);
        // Two GROUPS: ticks 0 and 1 are loads, 2 and 3 idle, then 4 and 5 loads, and all is over.
        x.launch(1, 2, 0);
        due("ticks", x.step(400), 6);
        due("idle", x.told(2), 2);
        due("acts", x.told(10), 4);
        due("cost", x.told(11), 12);
        due("none is picked that is not free", x.group(1, 5), 9);
        LaneBoard y = board(LOAD, 1, 0, 7, LOAD, 1, 0, 7);
        y.row(0, 2, 1);
        y.launch(1, 4, 0);
        due("four groups: 8 ticks", y.step(400), 8);
        due("none is idle", y.told(2), 0);
    }

    /** The COST of one ACT whose LANES ask these places, the last of them by all LANES that are left. */
    private static int cost(int op, int... places) {
        LaneBoard x = board(LANE, 0, 0, 0, LOAD, 1, 5, 0, op, 2, 0, 1);
        x.row(0, op == F_LOAD || op == F_STORE ? 3 : 2, 256);
        x.row(5, 2, 32);
        for (int i = 0; i < 32; i++) x.put(5, i, places[Math.min(i, places.length - 1)]);
        x.launch(1, 1, 64);
        x.step(2);
        int before = x.told(11);
        due("32 places of one line", before, 3);
        finish(x);
        due("free from", x.group(0, 5), 5 + 1 + x.told(11) - before);
        return x.told(11) - before;
    }

    /** "25 to 29: of the places asked ... how many LINES (32 cells of the ROW each) they are in, times 3" */
    private static void linesAsked() {
        for (int op = LOAD; op <= ADD; op++) {
            due("one cell", cost(op, 0), 3);
            due("0 and 31", cost(op, 0, 31), 3);
            due("31 and 32", cost(op, 31, 32), 6);
            due("32 and 63", cost(op, 32, 63), 3);
            due("the last cell", cost(op, 255), 3);
            due("223 and 224", cost(op, 223, 224), 6);
            due("all eight lines", cost(op, 0, 32, 64, 96, 128, 160, 192, 224), 24);
            due("a line asked again", cost(op, 0, 32, 1, 33, 0, 32), 6);
        }
    }

    /** "30 to 32: of all banks (place modulo 32) the most unlike cells asked in one, less 1" */
    private static void banksAsked() {
        for (int op = S_LOAD; op <= S_ADD; op++) {
            due("one cell", cost(op, 0), 0);
            due("the last cell", cost(op, 63), 0);
            due("two banks", cost(op, 0, 31), 0);
            due("31 and 32 are of two banks", cost(op, 31, 32), 0);
            due("0 and 32 are of one", cost(op, 0, 32), 1);
            due("31 and 63 are of one", cost(op, 31, 63), 1);
            due("two banks of two", cost(op, 0, 32, 1, 33), 1);
            due("asked again", cost(op, 0, 32, 0, 32), 1);
            due("32 cells of 32 banks", cost(op, 16, 17, 18, 19, 20, 21, 22, 23, 24, 25, 26, 27, 28, 29, 30, 31, 32, 33, 34, 35,
                36, 37, 38, 39, 40, 41, 42, 43, 44, 45, 46, 47), 0);
        }
    }

    /** What one ACT asked is not asked again by the next. */
    private static void eachActByItself() {
        LaneBoard x = board(LANE, 0, 0, 0, SET, 1, 5, 0, LEFT, 1, 0, 1, SET, 2, 63, 0, AND, 1, 1, 2, S_LOAD, 3, 0, 1, SET, 4, 1, 0,
            S_LOAD, 3, 0, 7, LOAD, 3, 0, 1, S_LOAD, 3, 0, 7, LOAD, 3, 0, 7, SET, 4, 1, 0);
        x.row(0, 2, 64);
        x.launch(1, 1, 64);
        int[] cost = {0, 0, 0, 0, 0, 1, 1, 1, 7, 7, 10, 10};
        int ticks = 0;
        for (int i = 0; i < cost.length; i++) {
            while (x.told(10) == i && ticks < 100) ticks += x.step(1);
            due("after act " + i, x.told(11), cost[i]);
        }
    }

    /** "others 0" */
    private static void otherCosts() {
        for (int op = 0; op <= 43; op++) {
            if (op >= LOAD && op <= S_ADD || op == JUMP) continue;
            LaneBoard x = board(SET, 1, 1, 0, SET, 0, 0, 0, SET, 2, 2, 0, REAL, 1, 1, 0, op, 0, 1, 1, SET, 3, 1, 0);
            x.launch(1, 1, 64);
            x.step(5);
            due("op " + op, x.told(11), 0);
            due("free from, op " + op, x.group(0, 5), 5);
        }
    }

    /** "of the places asked by LANES that did not FAIL"; "(0 if none was)" */
    private static void costOfAFailure() {
        due("two lines, then no such place", cost(STORE, 0, 32, 256), 6);
        due("none was asked", cost(STORE, 256), 0);
        due("two cells of a bank, then no such cell", cost(S_STORE, 0, 32, 64), 1);
        due("one cell, then no such cell", cost(S_STORE, 0, 64), 0);
        due("none was asked", cost(S_STORE, 64), 0);
        due("none was asked", cost(S_ADD, -1), 0);
    }

    private static String picked(LaneBoard x, int ticks) {
        StringBuilder s = new StringBuilder();
        for (int k = 0; k < ticks; k++) {
            x.step(1);
            for (int n = 0; n < x.told(3); n++) if (x.group(n, 5) > x.told(1) - 1) s.append(n);
        }
        return s.toString();
    }

    /** "0 the first behind the one PICKED latest, round by numbers (at first 0)" */
    private static void ruleRound() {
        LaneBoard x = board(JUMP, 0, 0, 0);
        x.launch(1, 4, 0);
        dueText("round", picked(x, 9), "012301230");
        x.rule(2, 0);
        dueText("the greatest", picked(x, 2), "33");
        x.rule(0, 0);
        dueText("behind that", picked(x, 3), "012");
        x.rule(1, 0);
        dueText("the least", picked(x, 1), "0");
        x.rule(0, 0);
        dueText("behind that", picked(x, 3), "123");
        LaneBoard y = board(JUMP, 0, 0, 0);
        y.launch(1, 1, 0);
        dueText("one alone, again and again", picked(y, 3), "000");
        // GROUP 1 ENDS at once: it is passed over.
        LaneBoard z = board(GROUP, 0, 0, 0, SET, 1, 1, 0, EQUAL, 2, 0, 1, BRANCH, 2, 5, 0, JUMP, 0, 4, 0);
        z.launch(1, 3, 0);
        z.step(12);
        due("it ended", z.group(1, 4), 4);
        dueText("passed over", picked(z, 5), "02020");
    }

    /** "1 the least; 2 the greatest" of those that are FREE, in, and go on. */
    private static void ruleLeastAndGreatest() {
        LaneBoard x = board(JUMP, 0, 0, 0);
        x.launch(6, 4, 0);
        x.rule(2, 0);
        dueText("the greatest of those that are in", picked(x, 3), "777");
        x.rule(1, 0);
        dueText("the least", picked(x, 3), "000");
        LaneBoard y = board(LOAD, 1, 0, 7, JUMP, 0, 0, 0);
        y.row(0, 2, 1);
        y.launch(1, 2, 0);
        y.rule(1, 0);
        y.step(1);
        due("0 is not free", y.group(0, 5), 4);
        y.step(1);
        due("so 1 is the least", y.group(1, 5), 5);
    }

    /** "3 by the SEED: h, at first it, becomes h * 1103515245 + 12345 (wrapping), and the one at the rest ..." */
    private static void ruleBySeed() {
        for (int size = 1; size <= 4; size++) {
            for (int seed : new int[] {0, 1, -1, MIN, MAX, 123456789}) {
                LaneBoard x = board(JUMP, 0, 0, 0);
                x.launch(2, size, 0);
                x.rule(3, seed);
                int h = seed, n = 2 * size;
                for (int k = 0; k < 12; k++) {
                    h = h * 1103515245 + 12345;
                    long bits = (h & 0xFFFFFFFFL) / 65536;
                    x.step(1);
                    due("seed " + seed, x.group((int) (bits % n), 5), k + 1);
                }
            }
        }
        LaneBoard x = board(JUMP, 0, 0, 0);
        x.launch(1, 4, 0);
        x.rule(3, 77);
        String first = picked(x, 10);
        x.rule(3, 77);
        dueText("the rule told again: the seed anew", picked(x, 10), first);
    }

    /** So many ACTS of one GROUP, five at least, and then the ones given; their BRANCHES go so many places further. */
    private static LaneBoard after(int acts, int... last) {
        LaneBoard x = new LaneBoard();
        int turns = (acts - 2) / 3, more = acts - 2 - 3 * turns;
        for (int k = 0; k < more; k++) x.code(SET, 6, 1, 0);
        add(x, LANE, 3, 0, 0, SET, 0, turns, 0, SET, 2, -1, 0, PLUS, 0, 0, 2, BRANCH, 0, more + 2, 0);
        int at = more + 5;
        for (int i = 0; i < last.length; i += 4) {
            int b = last[i] == BRANCH ? at + i / 4 + last[i + 2] : last[i + 2];
            x.code(last[i], last[i + 1], b, last[i + 3]);
        }
        return x;
    }

    /** "SPENT when NOW is 2000"; "of several the least": OVER in that TICK is OVER. */
    private static void overInTime() {
        for (int acts = 1998; acts <= 2001; acts++) {
            LaneBoard x = after(acts);
            x.launch(1, 1, 0);
            due("ticks of " + acts, finish(x), Math.min(acts, 2000));
            due("state after " + acts, x.told(0), acts <= 2000 ? 2 : 4);
            due("ended", x.told(4), acts <= 2000 ? 1 : 0);
            due("now", x.told(1), Math.min(acts, 2000));
        }
    }

    private static void spentInTime() {
        LaneBoard x = board(JUMP, 0, 0, 0);
        x.launch(2, 2, 0);
        for (int k = 0; k < 4; k++) due("ticks", x.step(400), 400);
        due("but one", x.step(399), 399);
        due("goes on at 1999", x.told(0), 1);
        due("no code now", x.code(0, 0, 0, 0), STATE);
        due("one more", x.step(2), 1);
        due("spent", x.told(0), 4);
        due("no tick more", x.step(1), 0);
        due("no group ended", x.told(4), 0);
        due("a new one begins anew", x.launch(1, 1, 0), 1);
        due("now", x.told(1), 0);
        due("goes on", x.step(400), 400);
    }

    /** STUCK in TICK 2000 is STUCK; what would come to be so later is SPENT. */
    private static void stuckInTime() {
        for (int acts = 1997; acts <= 1999; acts++) {
            // 31 LANES go over the FENCE to the SET behind it, LANE 0 comes to the FENCE.
            LaneBoard x = after(acts, BRANCH, 3, 2, 0, FENCE, 0, 0, 0, SET, 5, 1, 0);
            x.launch(1, 1, 0);
            due("ticks", finish(x), Math.min(acts + 2, 2000));
            due("stuck after " + (acts + 2), x.told(0), acts <= 1998 ? 3 : 4);
            due("is the group", x.group(0, 4), acts <= 1998 ? 2 : 0);
        }
    }

    /** "STUCK when all GROUPS that are in have ENDED, wait or are STUCK, no further BLOCK fits in, and it is not OVER" */
    private static void notStuckWhileABlockFits() {
        // BLOCK 0 is STUCK, the others END: BLOCK 2 comes in where BLOCK 1 was.
        LaneBoard x = board(BLOCK, 0, 0, 0, BRANCH, 0, 6, 0, LANE, 1, 0, 0, BRANCH, 1, 5, 0, FENCE, 0, 0, 0, SET, 2, 1, 0);
        x.launch(3, 4, 0);
        x.rule(1, 0);
        due("ticks", x.step(28), 28);
        due("all that are in are stuck or ended", x.told(4), 4);
        due("but it goes on", x.told(0), 1);
        due("eight more", x.step(400), 8);
        due("stuck now", x.told(0), 3);
        due("ended", x.told(4), 8);
        // Two BLOCKS of four wait for ever: the third does not fit.
        LaneBoard y = board(GROUP, 0, 0, 0, BRANCH, 0, 5, 0, LANE, 1, 0, 0, BRANCH, 1, 5, 0, FENCE, 0, 0, 0, FENCE, 0, 0, 0,
            SET, 2, 1, 0);
        ran(y, 3, 4, 0);
        due("stuck", y.told(0), 3);
        due("the third is out", y.group(8, 6), 0);
        due("2 stuck, 6 wait", y.group(4, 4) * 10 + y.group(5, 4), 21);
    }

    /** "A LAUNCH is OVER when all GROUPS ENDED": those that are not in yet, too. */
    private static void notOverWhileABlockIsOut() {
        LaneBoard x = board(SET, 0, 1, 0);
        x.launch(5, 4, 0);
        due("ticks", x.step(8), 8);
        due("all that are in have ended", x.told(4), 8);
        due("it goes on", x.told(0), 1);
        due("the others", x.step(400), 12);
        due("over", x.told(0), 2);
        due("never idle", x.told(2), 0);
    }
}
