import java.util.ArrayList;
import java.util.List;

/**
 * The document once more, written as plainly as it reads and without a care for room: each LANE, WAY and TOUCH is
 * an object, THE MEET is found by its definition, and a LANE alone has a loop of its own. TwinTest holds LaneBoard
 * against it.
 */
final class Twin {
    static final int NONE = -1, UNKNOWN = -1000001, OUTSIDE = -1000002, STATE = -1000003, FULL = -1000004;

    static final class Fail extends RuntimeException {
        private static final long serialVersionUID = 1L;
        final int failure;

        Fail(int failure) {
            super(null, null, false, false);
            this.failure = failure;
        }
    }

    static final class Row {
        int sort;
        int[] ints;
        float[] floats;

        Row(int sort, int n) {
            this.sort = sort;
            if (sort == 3) floats = new float[n];
            else ints = new int[n];
        }

        int length() {
            return sort == 3 ? floats.length : ints.length;
        }

        int get(int i) {
            return sort == 3 ? (int) floats[i] : ints[i];
        }

        float getFloat(int i) {
            return sort == 3 ? floats[i] : ints[i];
        }

        void set(int i, int v) {
            if (sort == 3) floats[i] = v;
            else ints[i] = sort == 0 ? (byte) v : sort == 1 ? (short) v : v;
        }

        Row copy() {
            Row r = new Row(sort, length());
            System.arraycopy(sort == 3 ? floats : ints, 0, sort == 3 ? r.floats : r.ints, 0, length());
            return r;
        }
    }

    static Row[] copyRows(Row[] rows) {
        Row[] r = new Row[6];
        for (int g = 0; g < 6; g++) r[g] = rows[g] == null ? null : rows[g].copy();
        return r;
    }

    static final class Lane {
        int[] w = new int[8];
        float[] f = new float[4];
        int[] own = new int[4];
        boolean ended;

        Lane copy() {
            Lane l = new Lane();
            l.w = w.clone();
            l.f = f.clone();
            l.own = own.clone();
            l.ended = ended;
            return l;
        }
    }

    static final class Way {
        int act, over;
        List<Integer> lanes = new ArrayList<>();

        Way(int act, int over) {
            this.act = act;
            this.over = over;
        }

        int bits() {
            int b = 0;
            for (int l : lanes) b |= 1 << l;
            return b;
        }
    }

    static final class Group {
        int number, block, inBlock, free;
        boolean waits, stuck, failed, in;
        Lane[] lanes = new Lane[32];
        List<Way> stack = new ArrayList<>();

        boolean ended() {
            return stack.isEmpty();
        }

        Way top() {
            return stack.get(stack.size() - 1);
        }

        Group copy() {
            Group c = new Group();
            c.number = number;
            c.block = block;
            c.inBlock = inBlock;
            c.free = free;
            c.waits = waits;
            c.stuck = stuck;
            c.failed = failed;
            c.in = in;
            for (int i = 0; i < 32; i++) c.lanes[i] = lanes[i].copy();
            for (Way w : stack) {
                Way v = new Way(w.act, w.over);
                v.lanes.addAll(w.lanes);
                c.stack.add(v);
            }
            return c;
        }
    }

    record Touch(int group, int block, int lane, int act, boolean writes, boolean adds, int done, int time, int row, int place) {
    }

    final class Launch {
        int size, sharedCount, state = 1, now, idle, done, cost, rule, h, latest = -1, pairs, touchCount;
        int failGroup = -1, failLane = -1, failAct = -1, failure;
        Row[] rows, start;
        int[][] shared;
        int[] time;
        List<Group> groups = new ArrayList<>();
        List<Touch> touches = new ArrayList<>();
        List<int[]> races = new ArrayList<>();

        Launch copy(Row[] itsRows) {
            Launch c = new Launch();
            c.size = size;
            c.sharedCount = sharedCount;
            c.state = state;
            c.now = now;
            c.idle = idle;
            c.done = done;
            c.cost = cost;
            c.rule = rule;
            c.h = h;
            c.latest = latest;
            c.pairs = pairs;
            c.touchCount = touchCount;
            c.failGroup = failGroup;
            c.failLane = failLane;
            c.failAct = failAct;
            c.failure = failure;
            c.rows = itsRows;
            c.start = start;
            c.shared = new int[shared.length][];
            for (int b = 0; b < shared.length; b++) c.shared[b] = shared[b].clone();
            c.time = time.clone();
            for (Group g : groups) c.groups.add(g.copy());
            c.touches.addAll(touches);
            c.races.addAll(races);
            return c;
        }

        int endedGroups() {
            int n = 0;
            for (Group g : groups) if (g.ended()) n++;
            return n;
        }

        int failedGroups() {
            int n = 0;
            for (Group g : groups) if (g.failed) n++;
            return n;
        }

        List<Group> ofBlock(int block) {
            return groups.subList(block * size, block * size + size);
        }

        /** The number of the block that would come in now; -1 if none fits. */
        int fitting() {
            int used = 0;
            for (int b = 0; b < shared.length; b++) {
                if (!ofBlock(b).get(0).in) return used + size <= 8 ? b : -1;
                boolean allEnded = true;
                for (Group g : ofBlock(b)) allEnded &= g.ended();
                if (!allEnded) used += size;
            }
            return -1;
        }

        void tick() {
            for (int b = fitting(); b >= 0; b = fitting()) for (Group g : ofBlock(b)) g.in = true;
            List<Group> can = new ArrayList<>();
            for (Group g : groups) if (g.in && !g.ended() && !g.waits && !g.stuck && g.free <= now) can.add(g);
            if (can.isEmpty()) {
                idle++;
            } else {
                Group g = pick(can);
                latest = g.number;
                act(g);
            }
            now++;
            boolean frozen = fitting() < 0;
            for (Group g : groups) if (g.in && !g.ended() && !g.waits && !g.stuck) frozen = false;
            state = endedGroups() == groups.size() ? 2 : frozen ? 3 : now == 2000 ? 4 : 1;
        }

        Group pick(List<Group> can) {
            if (rule == 1) return can.get(0);
            if (rule == 2) return can.get(can.size() - 1);
            if (rule == 3) {
                h = h * 1103515245 + 12345;
                return can.get((int) (((h & 0xFFFFFFFFL) >> 16) % can.size()));
            }
            for (int k = 1; k <= 24; k++) {
                for (Group g : can) if (g.number == (latest + k) % 24) return g;
            }
            throw new IllegalStateException();
        }

        void act(Group g) {
            done++;
            Way top = g.top();
            int i = top.act;
            int[] c = code.get(i);
            List<int[]> asked = new ArrayList<>();
            if (c[0] == 36) {
                branch(g, i);
            } else if (c[0] == 37) {
                top.act = c[2];
            } else if (c[0] >= 38 && c[0] <= 41) {
                int[][] was = new int[32][];
                for (int l = 0; l < 32; l++) was[l] = g.lanes[l].w.clone();
                for (int l : top.lanes) g.lanes[l].w[c[1]] = voted(c, l, top.lanes, was);
                top.act++;
            } else if (c[0] == 42) {
                boolean all = true;
                for (int l = 0; l < 32; l++) all &= g.lanes[l].ended || top.lanes.contains(l);
                if (all) g.waits = true;
                else g.stuck = true;
            } else if (c[0] == 43) {
                for (int l : new ArrayList<>(top.lanes)) end(g, l);
            } else {
                top.act++;
                for (int l : new ArrayList<>(top.lanes)) {
                    try {
                        one(c, g.lanes[l], l, g.inBlock, g.block, size, rows, shared[g.block]);
                    } catch (Fail f) {
                        g.failed = true;
                        g.stack.clear();
                        for (Lane lane : g.lanes) lane.ended = true;
                        if (failure == 0) {
                            failGroup = g.number;
                            failLane = l;
                            failAct = i;
                            failure = f.failure;
                        }
                        break;
                    }
                    if (c[0] >= 25 && c[0] <= 32) touch(g, l, i, c, asked);
                }
            }
            int paid = costOf(c[0], asked);
            cost += paid;
            g.free = now + 1 + paid;
            tidy(g);
            List<Group> waiting = new ArrayList<>();
            for (Group o : ofBlock(g.block)) {
                if (o.waits) waiting.add(o);
                else if (!o.ended()) return;
            }
            if (waiting.isEmpty()) return;
            time[g.block]++;
            for (Group o : waiting) {
                o.waits = false;
                o.top().act++;
                tidy(o);
            }
        }

        int costOf(int op, List<int[]> asked) {
            if (op >= 25 && op <= 29) {
                boolean[] line = new boolean[8];
                int n = 0;
                for (int[] a : asked) {
                    if (!line[a[0] / 32]) n += 3;
                    line[a[0] / 32] = true;
                }
                return n;
            }
            if (op >= 30 && op <= 32) {
                int most = 0;
                for (int bank = 0; bank < 32; bank++) {
                    List<Integer> unlike = new ArrayList<>();
                    for (int[] a : asked) if (a[0] % 32 == bank && !unlike.contains(a[0])) unlike.add(a[0]);
                    most = Math.max(most, unlike.size());
                }
                return most == 0 ? 0 : most - 1;
            }
            return 0;
        }

        /** LOADS into the WHOLE that held the place have lost it: the place was set aside by one(). */
        void touch(Group g, int l, int i, int[] c, List<int[]> asked) {
            asked.add(new int[] {placeAsked});
            touchCount++;
            if (touchCount > 1000) return;
            boolean adds = c[0] == 29 || c[0] == 32;
            boolean writes = adds || c[0] == 26 || c[0] == 28 || c[0] == 31;
            Touch t = new Touch(g.number, g.block, l, i, writes, adds, done, time[g.block], c[0] < 30 ? c[2] : -1, placeAsked);
            for (Touch e : touches) {
                if (e.row != t.row || e.place != t.place || t.row < 0 && e.block != t.block) continue;
                if (!e.writes && !t.writes || e.adds && t.adds) continue;
                if (e.group == t.group && e.lane == t.lane) continue;
                if (e.group == t.group && e.done != t.done) continue;
                if (e.block == t.block && e.time != t.time) continue;
                pairs++;
                if (races.size() < 20) races.add(new int[] {e.group, e.lane, e.act, t.group, t.lane, t.act, t.row, t.place});
            }
            touches.add(t);
        }

        void end(Group g, int lane) {
            g.lanes[lane].ended = true;
            for (Way w : g.stack) w.lanes.remove((Integer) lane);
        }

        void tidy(Group g) {
            while (!g.ended()) {
                Way top = g.top();
                if (top.act == code.size()) for (int l : new ArrayList<>(top.lanes)) end(g, l);
                if (!top.lanes.isEmpty() && top.act != top.over) break;
                g.stack.remove(top);
            }
        }

        void branch(Group g, int i) {
            Way top = g.top();
            int[] c = code.get(i);
            Way taken = new Way(c[2], 0), rest = new Way(i + 1, 0);
            for (int l : top.lanes) (g.lanes[l].w[c[1]] != 0 ? taken : rest).lanes.add(l);
            for (Way w : List.of(taken, rest)) {
                if (w.act != code.size()) continue;
                for (int l : w.lanes) end(g, l);
                w.lanes.clear();
            }
            if (rest.lanes.isEmpty()) {
                top.act = taken.act;
                return;
            }
            if (taken.lanes.isEmpty()) {
                top.act = rest.act;
                return;
            }
            int meet = meetOf(i);
            top.act = meet;
            taken.over = meet;
            rest.over = meet;
            boolean takenLast = taken.lanes.size() > rest.lanes.size()
                || taken.lanes.size() == rest.lanes.size() && taken.lanes.get(0) < rest.lanes.get(0);
            for (Way w : takenLast ? List.of(rest, taken) : List.of(taken, rest)) if (w.act != meet) g.stack.add(w);
        }
    }

    int placeAsked;

    static int voted(int[] c, int lane, List<Integer> inStep, int[][] was) {
        int n = 0;
        for (int l : inStep) if (was[l][c[2]] != 0) n++;
        if (c[0] == 38) return n > 0 ? 1 : 0;
        if (c[0] == 39) return n == inStep.size() ? 1 : 0;
        if (c[0] == 40) return n;
        int from = was[lane][c[3]];
        return inStep.contains(from) ? was[from][c[2]] : -1;
    }

    static float number(float v) {
        if (Float.isNaN(v)) throw new Fail(6);
        return v;
    }

    /** An ACT but 36 to 43 for one LANE. */
    void one(int[] c, Lane l, int lane, int group, int block, int size, Row[] rows, int[] shared) {
        int a = c[1], b = c[2], d = c[3];
        int[] w = l.w;
        float[] f = l.f;
        switch (c[0]) {
            case 0 -> w[a] = b;
            case 1 -> w[a] = w[b];
            case 2 -> w[a] = w[b] + w[d];
            case 3 -> w[a] = w[b] - w[d];
            case 4 -> w[a] = w[b] * w[d];
            case 5 -> w[a] = w[b] / divisor(w[d]);
            case 6 -> w[a] = w[b] % divisor(w[d]);
            case 7 -> w[a] = w[b] & w[d];
            case 8 -> w[a] = w[b] | w[d];
            case 9 -> w[a] = w[b] ^ w[d];
            case 10 -> w[a] = w[b] << w[d];
            case 11 -> w[a] = w[b] >> w[d];
            case 12 -> w[a] = w[b] < w[d] ? 1 : 0;
            case 13 -> w[a] = w[b] == w[d] ? 1 : 0;
            case 14 -> w[a] = lane;
            case 15 -> w[a] = group;
            case 16 -> w[a] = block;
            case 17 -> w[a] = size;
            case 18 -> f[a] = w[b];
            case 19 -> f[a] = number(f[b] + f[d]);
            case 20 -> f[a] = number(f[b] - f[d]);
            case 21 -> f[a] = number(f[b] * f[d]);
            case 22 -> f[a] = number(f[b] / f[d]);
            case 23 -> w[a] = f[b] < f[d] ? 1 : 0;
            case 24 -> w[a] = (int) f[b];
            case 25, 26, 27, 28, 29 -> row(c, l, rows[b]);
            case 30, 31, 32 -> {
                int p = within(w[d], shared.length);
                int was = shared[p];
                if (c[0] == 31) shared[p] = w[a];
                if (c[0] == 32) shared[p] += w[a];
                if (c[0] != 31) w[a] = was;
            }
            case 33 -> w[a] = l.own[within(w[d], l.own.length)];
            case 34 -> l.own[within(w[d], l.own.length)] = w[a];
            case 35 -> {
                if (w[d] < 0) throw new Fail(4);
                if (w[d] > 16) throw new Fail(7);
                l.own = new int[w[d]];
            }
            default -> throw new IllegalStateException();
        }
    }

    static int divisor(int v) {
        if (v == 0) throw new Fail(5);
        return v;
    }

    int within(int place, int length) {
        if (place < 0 || place >= length) throw new Fail(3);
        placeAsked = place;
        return place;
    }

    void row(int[] c, Lane l, Row r) {
        if (r == null) throw new Fail(1);
        boolean suits = c[0] == 27 || c[0] == 28 ? r.sort == 3 : c[0] == 29 ? r.sort == 2 : r.sort < 3;
        if (!suits) throw new Fail(2);
        int p = within(l.w[c[3]], r.length());
        int was = r.get(p);
        switch (c[0]) {
            case 25 -> l.w[c[1]] = was;
            case 26 -> r.set(p, l.w[c[1]]);
            case 27 -> l.f[c[1]] = r.floats[p];
            case 28 -> r.floats[p] = l.f[c[1]];
            default -> {
                r.set(p, was + l.w[c[1]]);
                l.w[c[1]] = was;
            }
        }
    }

    List<int[]> code = new ArrayList<>();
    Row[] rows = new Row[6];
    Launch launch;
    List<int[]> keptCode;
    Row[] keptRows;
    Launch keptLaunch;
    boolean wasAlone;
    Row[] leftRows;
    Lane leftLane;
    int[] leftShared;
    int[] other = new int[4];

    boolean goesOn() {
        return launch != null && launch.state == 1;
    }

    int code(int op, int a, int b, int c) {
        if (goesOn()) return STATE;
        if (code.size() == 90) return FULL;
        launch = null;
        code.add(new int[] {op, a, b, c});
        return code.size();
    }

    int wipe() {
        if (goesOn()) return STATE;
        launch = null;
        int n = code.size();
        code = new ArrayList<>();
        return n;
    }

    static final String[] NEEDS = {
        "w--", "ww-", "www", "www", "www", "www", "www", "www", "www", "www", "www", "www", "www", "www",
        "w--", "w--", "w--", "w--", "fw-", "fff", "fff", "fff", "fff", "wff", "wf-",
        "wgw", "wgw", "fgw", "fgw", "wgw", "w-w", "w-w", "w-w", "w-w", "w-w", "--w",
        "wt-", "-t-", "ww-", "ww-", "ww-", "www", "---", "---"};

    int judge() {
        for (int i = 0; i < code.size(); i++) {
            int[] c = code.get(i);
            if (c[0] < 0 || c[0] > 43) return i;
            for (int k = 0; k < 3; k++) {
                int bound = switch (NEEDS[c[0]].charAt(k)) {
                    case 'w' -> 7;
                    case 'f' -> 3;
                    case 'g' -> 5;
                    case 't' -> code.size();
                    default -> NONE;
                };
                if (bound != NONE && (c[k + 1] < 0 || c[k + 1] > bound)) return i;
            }
        }
        return NONE;
    }

    int[] after(int i) {
        int[] c = code.get(i);
        return c[0] == 36 ? new int[] {c[2], i + 1} : new int[] {c[0] == 37 ? c[2] : c[0] == 43 ? code.size() : i + 1};
    }

    boolean leads(int from, int to, int without, boolean[] seen) {
        if (from == without) return false;
        if (from == to) return true;
        if (from == code.size() || seen[from]) return false;
        seen[from] = true;
        for (int n : after(from)) if (leads(n, to, without, seen)) return true;
        return false;
    }

    boolean reaches(int from, int to, int without) {
        return leads(from, to, without, new boolean[code.size() + 1]);
    }

    int meetOf(int i) {
        int end = code.size();
        if (!reaches(i, end, NONE)) return end;
        List<Integer> onAll = new ArrayList<>();
        for (int p = 0; p <= end; p++) if (p != i && (p == end || !reaches(i, end, p))) onAll.add(p);
        for (int p : onAll) {
            boolean first = true;
            for (int q : onAll) if (q != p && reaches(i, q, p)) first = false;
            if (first) return p;
        }
        throw new IllegalStateException("no first of " + onAll);
    }

    int meet(int i) {
        if (i < 0 || i >= code.size() || code.get(i)[0] != 36) return OUTSIDE;
        return judge() != NONE ? STATE : meetOf(i);
    }

    int row(int g, int sort, int n) {
        if (g < 0 || g > 5) return UNKNOWN;
        if (sort < 0 || sort > 3 || n < -1 || n > 256) return OUTSIDE;
        if (goesOn()) return STATE;
        launch = null;
        rows[g] = n == -1 ? null : new Row(sort, n);
        return 1;
    }

    boolean noRow(int g) {
        return g < 0 || g > 5 || rows[g] == null;
    }

    int put(int g, int place, int v) {
        if (noRow(g)) return UNKNOWN;
        if (place < 0 || place >= rows[g].length()) return OUTSIDE;
        rows[g].set(place, v);
        return 1;
    }

    int cell(int g, int place) {
        if (noRow(g)) return UNKNOWN;
        if (place < 0 || place >= rows[g].length()) return OUTSIDE;
        return rows[g].get(place);
    }

    float real(int g, int place) {
        if (noRow(g) || place < 0 || place >= rows[g].length()) return 0;
        return rows[g].getFloat(place);
    }

    Launch begun(int blocks, int size, int shared, Row[] its) {
        Launch l = new Launch();
        l.size = size;
        l.sharedCount = shared;
        l.rows = its;
        l.start = copyRows(its);
        l.shared = new int[blocks][shared];
        l.time = new int[blocks];
        for (int n = 0; n < blocks * size; n++) {
            Group g = new Group();
            g.number = n;
            g.block = n / size;
            g.inBlock = n % size;
            Way w = new Way(0, NONE);
            for (int i = 0; i < 32; i++) {
                g.lanes[i] = new Lane();
                w.lanes.add(i);
            }
            g.stack.add(w);
            l.groups.add(g);
            l.tidy(g);
        }
        return l;
    }

    int launch(int blocks, int groups, int shared) {
        if (blocks < 1 || blocks > 6 || groups < 1 || groups > 4 || shared < 0 || shared > 64) return OUTSIDE;
        if (judge() != NONE) return STATE;
        launch = begun(blocks, groups, shared, rows);
        return 1;
    }

    int rule(int rule, int seed) {
        if (rule < 0 || rule > 3) return OUTSIDE;
        if (launch == null) return STATE;
        launch.rule = rule;
        launch.h = seed;
        return 1;
    }

    int step(int n) {
        if (n < 0 || n > 400) return OUTSIDE;
        if (launch == null) return STATE;
        int k = 0;
        for (; k < n && launch.state == 1; k++) launch.tick();
        return k;
    }

    int told(int what) {
        if (what < 0 || what > 13) return OUTSIDE;
        if (launch == null) return what >= 6 && what <= 8 ? NONE : 0;
        Launch l = launch;
        int[] all = {l.state, l.now, l.idle, l.groups.size(), l.endedGroups(), l.failedGroups(),
            l.failGroup, l.failLane, l.failAct, l.failure, l.done, l.cost, l.pairs, l.touchCount};
        return all[what];
    }

    boolean noGroup(int n) {
        return launch == null || n < 0 || n >= launch.groups.size();
    }

    int group(int n, int what) {
        if (noGroup(n)) return UNKNOWN;
        if (what < 0 || what > 6) return OUTSIDE;
        Group g = launch.groups.get(n);
        int endedLanes = 0;
        for (Lane l : g.lanes) if (l.ended) endedLanes++;
        int[] all = {g.ended() ? code.size() : g.top().act, g.ended() ? 0 : g.top().bits(), g.stack.size(), endedLanes,
            g.failed ? 3 : g.ended() ? 4 : g.stuck ? 2 : g.waits ? 1 : 0, g.free, g.in ? 1 : 0};
        return all[what];
    }

    int way(int n, int i, int what) {
        if (noGroup(n) || i < 0 || i >= launch.groups.get(n).stack.size()) return UNKNOWN;
        if (what < 0 || what > 2) return OUTSIDE;
        Way w = launch.groups.get(n).stack.get(i);
        return what == 0 ? w.act : what == 1 ? w.bits() : w.over;
    }

    Lane lane(int n, int lane) {
        return noGroup(n) || lane < 0 || lane > 31 ? null : launch.groups.get(n).lanes[lane];
    }

    int whole(int n, int lane, int i) {
        Lane l = lane(n, lane);
        return l == null ? UNKNOWN : i < 0 || i > 7 ? OUTSIDE : l.w[i];
    }

    float float0(int n, int lane, int i) {
        Lane l = lane(n, lane);
        return l == null || i < 0 || i > 3 ? 0 : l.f[i];
    }

    int own(int n, int lane, int i) {
        Lane l = lane(n, lane);
        if (l == null) return UNKNOWN;
        if (i == NONE) return l.own.length;
        return i < 0 || i >= l.own.length ? OUTSIDE : l.own[i];
    }

    int shared(int block, int i) {
        if (launch == null || block < 0 || block >= launch.shared.length) return UNKNOWN;
        return i < 0 || i >= launch.sharedCount ? OUTSIDE : launch.shared[block][i];
    }

    int race(int i, int what) {
        if (launch == null || i < 0 || i >= launch.races.size()) return UNKNOWN;
        return what < 0 || what > 7 ? OUTSIDE : launch.races.get(i)[what];
    }

    int alone(int n, int lane) {
        if (lane(n, lane) == null) return UNKNOWN;
        wasAlone = true;
        leftRows = copyRows(launch.start);
        leftLane = new Lane();
        leftShared = new int[launch.sharedCount];
        int at = 0;
        for (int k = 0; k < 2000; k++) {
            if (at == code.size()) return 0;
            int[] c = code.get(at);
            int[] w = leftLane.w;
            int next = at + 1;
            switch (c[0]) {
                case 36 -> next = w[c[1]] != 0 ? c[2] : next;
                case 37 -> next = c[2];
                case 38, 39, 40 -> w[c[1]] = w[c[2]] != 0 ? 1 : 0;
                case 41 -> w[c[1]] = w[c[3]] == lane ? w[c[2]] : -1;
                case 42 -> next = at + 1;
                case 43 -> next = code.size();
                default -> {
                    try {
                        one(c, leftLane, lane, n % launch.size, n / launch.size, launch.size, leftRows, leftShared);
                    } catch (Fail f) {
                        return f.failure;
                    }
                }
            }
            at = next;
        }
        return at == code.size() ? 0 : 8;
    }

    int left(int which, int place) {
        if (which < 0 || which > 8) return OUTSIDE;
        if (!wasAlone) {
            int most = which < 6 ? 256 : which == 6 ? 8 : which == 7 ? 16 : 64;
            return place < 0 || place >= most ? OUTSIDE : 0;
        }
        if (which < 6) {
            Row r = leftRows[which];
            return r == null || place < 0 || place >= r.length() ? OUTSIDE : r.get(place);
        }
        int[] cells = which == 6 ? leftLane.w : which == 7 ? leftLane.own : leftShared;
        return place < 0 || place >= cells.length ? OUTSIDE : cells[place];
    }

    int differ(int rule, int seed) {
        if (rule < 0 || rule > 3) return OUTSIDE;
        if (launch == null) return STATE;
        Row[] its = copyRows(launch.start);
        Launch l = begun(launch.shared.length, launch.size, launch.sharedCount, its);
        l.rule = rule;
        l.h = seed;
        while (l.state == 1) l.tick();
        other = new int[] {l.state, l.now, l.pairs, l.failedGroups()};
        for (int g = 0; g < 6; g++) {
            for (int p = 0; its[g] != null && p < its[g].length(); p++) {
                boolean same = its[g].sort == 3 ? its[g].floats[p] == rows[g].floats[p] : its[g].ints[p] == rows[g].ints[p];
                if (!same) return 256 * g + p;
            }
        }
        return NONE;
    }

    int other(int what) {
        return what < 0 || what > 3 ? OUTSIDE : other[what];
    }

    int keep() {
        if (launch == null) return STATE;
        keptCode = new ArrayList<>(code);
        keptRows = copyRows(rows);
        keptLaunch = launch.copy(null);
        return 1;
    }

    int back() {
        if (keptLaunch == null) return STATE;
        code = new ArrayList<>(keptCode);
        rows = copyRows(keptRows);
        launch = keptLaunch.copy(rows);
        return 1;
    }

    int digest() {
        int d = 7;
        for (Row r : rows) {
            d = 31 * d + (r == null ? -1 : r.length());
            for (int p = 0; r != null && p < r.length(); p++) d = 31 * d + r.get(p);
        }
        if (launch == null) return d;
        for (Group g : launch.groups) for (Lane l : g.lanes) for (int v : l.w) d = 31 * d + v;
        return d;
    }
}
