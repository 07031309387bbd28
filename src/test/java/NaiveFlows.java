import java.util.ArrayList;
import java.util.BitSet;
import java.util.List;

/**
 * The document's words gone by hand, slowly: what comes of a BOX is found by going through its
 * numbers one by one, SHOWN by going through the STATES of a HEAP, what comes back by marking STATES.
 */
final class NaiveFlows {
    private static final int BAD = -1, STATE = -2, FULL = -3, NONE = -4, DOUBTFUL = -5, SPENT = -6;

    private static final class Mode {
        int[][] room = all();
        int[][] slopes = new int[3][2];
        int[][] fence;
    }

    private static final class Jump {
        int from, to;
        int[][] guard = all();
        int[][] told = new int[3][];
    }

    private static final class Heap {
        int mode, origin, how;
        int[][] box;
        boolean worked, joined;
    }

    private final List<Mode> modes = new ArrayList<>();
    private final List<Jump> jumps = new ArrayList<>();
    private int startMode, wrongMode = NONE, most = 12;
    private final int[][] startBox = new int[3][2];
    private final int[][] wrongBox = all();
    private List<Heap> heaps;
    private int works;
    private boolean spent;
    private List<int[]> trail;
    private int[] point;
    private int place, steps;
    private final long[][] sheets = new long[4][];
    private final int[] lanes = new int[4];

    private static int[][] all() {
        return new int[][] {{-20, 20}, {-20, 20}, {-20, 20}};
    }

    private static boolean in(int v, int[] side) {
        return side[0] <= v && v <= side[1];
    }

    private static boolean in(int[] p, int[][] box) {
        return in(p[0], box[0]) && in(p[1], box[1]) && in(p[2], box[2]);
    }

    /** All BOXES are gone through number by number: the numbers of a in b. */
    private static int[][] both(int[][] a, int[][] b) {
        int[][] c = new int[3][];
        for (int x = 0; x < 3; x++) {
            BitSet seen = new BitSet();
            for (int v = -20; v <= 20; v++) {
                if (in(v, a[x]) && in(v, b[x])) {
                    seen.set(v + 100);
                }
            }
            c[x] = span(seen);
            if (c[x] == null) {
                return null;
            }
        }
        return c;
    }

    private static int[] span(BitSet seen) {
        if (seen.isEmpty()) {
            return null;
        }
        int low = seen.nextSetBit(0);
        int high = seen.length() - 1;
        if (seen.cardinality() != high - low + 1) {
            throw new IllegalStateException("what comes is no BOX");
        }
        return new int[] {low - 100, high - 100};
    }

    private static boolean within(int[][] a, int[][] b) {
        for (int x = 0; x < 3; x++) {
            for (int v = a[x][0]; v <= a[x][1]; v++) {
                if (!in(v, b[x])) {
                    return false;
                }
            }
        }
        return true;
    }

    private boolean ticks(int m, int[] p, int[] q) {
        Mode mode = modes.get(m);
        for (int x = 0; x < 3; x++) {
            if (!in(q[x] - p[x], mode.slopes[x])) {
                return false;
            }
        }
        return in(q, mode.room);
    }

    private boolean leaps(Jump j, int[] p, int[] q) {
        if (!in(p, j.guard) || !in(q, modes.get(j.to).room)) {
            return false;
        }
        for (int x = 0; x < 3; x++) {
            if (j.told[x] == null ? p[x] != q[x] : !in(q[x], j.told[x])) {
                return false;
            }
        }
        return true;
    }

    private int[][] afterTick(int m, int[][] box) {
        Mode mode = modes.get(m);
        int[][] c = new int[3][];
        for (int x = 0; x < 3; x++) {
            BitSet seen = new BitSet();
            for (int v = box[x][0]; v <= box[x][1]; v++) {
                for (int s = mode.slopes[x][0]; s <= mode.slopes[x][1]; s++) {
                    if (in(v + s, mode.room[x])) {
                        seen.set(v + s + 100);
                    }
                }
            }
            c[x] = span(seen);
            if (c[x] == null) {
                return null;
            }
        }
        return c;
    }

    private int[][] afterJump(Jump j, int[][] box) {
        int[][] c = new int[3][];
        for (int x = 0; x < 3; x++) {
            BitSet seen = new BitSet();
            for (int v = box[x][0]; v <= box[x][1]; v++) {
                if (!in(v, j.guard[x])) {
                    continue;
                }
                for (int q = -20; q <= 20; q++) {
                    boolean may = j.told[x] == null ? q == v : in(q, j.told[x]);
                    if (may && in(q, modes.get(j.to).room[x])) {
                        seen.set(q + 100);
                    }
                }
            }
            c[x] = span(seen);
            if (c[x] == null) {
                return null;
            }
        }
        return c;
    }

    private void changed() {
        heaps = null;
        trail = null;
    }

    private int[][] begins() {
        return startMode < modes.size() ? both(startBox, modes.get(startMode).room) : null;
    }

    private void look() {
        if (heaps != null) {
            return;
        }
        heaps = new ArrayList<>();
        works = 0;
        spent = false;
        int[][] first = begins();
        if (first != null) {
            come(startMode, first, NONE, NONE);
        }
        while (!spent) {
            int h = 0;
            while (h < heaps.size() && heaps.get(h).worked) {
                h++;
            }
            if (h == heaps.size()) {
                return;
            }
            if (works == 500) {
                spent = true;
                return;
            }
            works++;
            work(h);
        }
    }

    private void work(int h) {
        Heap heap = heaps.get(h);
        int[][] box = {heap.box[0].clone(), heap.box[1].clone(), heap.box[2].clone()};
        boolean again = come(heap.mode, afterTick(heap.mode, box), h, 0) == heap;
        for (int j = 0; j < jumps.size() && !spent; j++) {
            if (jumps.get(j).from == heap.mode) {
                again |= come(jumps.get(j).to, afterJump(jumps.get(j), box), h, 1 + j) == heap;
            }
        }
        heap.worked = !again;
    }

    /** The HEAP that was joined to, or null. */
    private Heap come(int m, int[][] box, int origin, int how) {
        if (box == null) {
            return null;
        }
        List<Heap> same = new ArrayList<>();
        for (Heap heap : heaps) {
            if (heap.mode == m) {
                same.add(heap);
                if (within(box, heap.box)) {
                    return null;
                }
            }
        }
        if (same.size() == most) {
            Heap latest = same.get(same.size() - 1);
            for (int x = 0; x < 3; x++) {
                int low = Math.min(latest.box[x][0], box[x][0]);
                int high = Math.max(latest.box[x][1], box[x][1]);
                latest.box[x] = new int[] {low, high};
            }
            latest.joined = true;
            latest.worked = false;
            return latest;
        }
        if (heaps.size() == 64) {
            spent = true;
            return null;
        }
        Heap heap = new Heap();
        heap.mode = m;
        heap.origin = origin;
        heap.how = how;
        heap.box = box;
        heaps.add(heap);
        return null;
    }

    private boolean sure(int h) {
        for (int at = h; at != NONE; at = heaps.get(at).origin) {
            if (heaps.get(at).joined) {
                return false;
            }
        }
        return true;
    }

    private boolean met(int h) {
        return heaps.get(h).mode == wrongMode && both(heaps.get(h).box, wrongBox) != null;
    }

    private int proof() {
        look();
        for (int h = 0; h < heaps.size(); h++) {
            if (sure(h) && met(h)) {
                return h;
            }
        }
        return NONE;
    }

    /** A row each: MODE, numbers, how it came. */
    private List<int[]> lead() {
        if (trail != null) {
            return trail;
        }
        int h = proof();
        if (h == NONE) {
            return null;
        }
        trail = new ArrayList<>();
        int[][] end = both(heaps.get(h).box, wrongBox);
        int[] next = {end[0][0], end[1][0], end[2][0]};
        trail.add(new int[] {heaps.get(h).mode, next[0], next[1], next[2], heaps.get(h).how});
        while (heaps.get(h).origin != NONE) {
            int how = heaps.get(h).how;
            h = heaps.get(h).origin;
            next = leastBefore(heaps.get(h), how, next);
            trail.add(0, new int[] {heaps.get(h).mode, next[0], next[1], next[2], heaps.get(h).how});
        }
        return trail;
    }

    private int[] leastBefore(Heap heap, int how, int[] next) {
        for (int x = heap.box[0][0]; x <= heap.box[0][1]; x++) {
            for (int y = heap.box[1][0]; y <= heap.box[1][1]; y++) {
                for (int z = heap.box[2][0]; z <= heap.box[2][1]; z++) {
                    int[] p = {x, y, z};
                    if (how == 0 ? ticks(heap.mode, p, next) : leaps(jumps.get(how - 1), p, next)) {
                        return p;
                    }
                }
            }
        }
        throw new IllegalStateException("nothing leads to a STATE of a SURE HEAP");
    }

    private boolean noMode(int m) {
        return m < 0 || m >= modes.size();
    }

    private static boolean noSides(int x, int low, int high, int bound) {
        return x < 0 || x > 2 || low < -bound || high > bound || low > high;
    }

    private static boolean far(int x, int y, int z, int bound) {
        int[] limits = {-bound, bound};
        return !in(x, limits) || !in(y, limits) || !in(z, limits);
    }

    int mode() {
        if (modes.size() == 6) {
            return FULL;
        }
        changed();
        modes.add(new Mode());
        return modes.size() - 1;
    }

    int room(int m, int x, int low, int high) {
        if (noMode(m) || noSides(x, low, high, 20)) {
            return BAD;
        }
        changed();
        modes.get(m).room[x] = new int[] {low, high};
        return 1;
    }

    int slope(int m, int x, int low, int high) {
        if (noMode(m) || noSides(x, low, high, 5)) {
            return BAD;
        }
        changed();
        modes.get(m).slopes[x] = new int[] {low, high};
        return 1;
    }

    int jump(int from, int to) {
        if (noMode(from) || noMode(to)) {
            return BAD;
        }
        if (jumps.size() == 12) {
            return FULL;
        }
        changed();
        Jump j = new Jump();
        j.from = from;
        j.to = to;
        jumps.add(j);
        return jumps.size() - 1;
    }

    int guard(int j, int x, int low, int high) {
        if (j < 0 || j >= jumps.size() || noSides(x, low, high, 20)) {
            return BAD;
        }
        changed();
        jumps.get(j).guard[x] = new int[] {low, high};
        return 1;
    }

    int set(int j, int x, boolean kept, int low, int high) {
        if (j < 0 || j >= jumps.size() || noSides(x, kept ? 0 : low, kept ? 0 : high, 20)) {
            return BAD;
        }
        changed();
        jumps.get(j).told[x] = kept ? null : new int[] {low, high};
        return 1;
    }

    int start(int m) {
        if (m < 0 || m > 5) {
            return BAD;
        }
        changed();
        int before = startMode;
        startMode = m;
        return before;
    }

    int box(int which, int x, int low, int high) {
        if (which != 0 && which != 1 || noSides(x, low, high, 20)) {
            return BAD;
        }
        changed();
        (which == 0 ? startBox : wrongBox)[x] = new int[] {low, high};
        return 1;
    }

    int wrong(int m) {
        if (m != NONE && (m < 0 || m > 5)) {
            return BAD;
        }
        changed();
        int before = wrongMode;
        wrongMode = m;
        return before;
    }

    int most(int n) {
        if (n < 1 || n > 12) {
            return BAD;
        }
        changed();
        int before = most;
        most = n;
        return before;
    }

    int safe() {
        if (proof() != NONE) {
            return 0;
        }
        for (int h = 0; h < heaps.size(); h++) {
            if (met(h)) {
                return DOUBTFUL;
            }
        }
        return spent ? SPENT : 1;
    }

    int heap(int h, int what) {
        look();
        if (h < 0 || h >= heaps.size() || what < 0 || what > 5) {
            return BAD;
        }
        Heap heap = heaps.get(h);
        int[] answers = {heap.mode, heap.origin, heap.how, heap.joined ? 1 : 0, sure(h) ? 1 : 0, met(h) ? 1 : 0};
        return answers[what];
    }

    int side(int h, int x, boolean high) {
        look();
        return h < 0 || h >= heaps.size() || x < 0 || x > 2 ? -100 : heaps.get(h).box[x][high ? 1 : 0];
    }

    int comes(int m, int x, int y, int z) {
        if (noMode(m) || far(x, y, z, 20)) {
            return BAD;
        }
        look();
        for (Heap heap : heaps) {
            if (heap.mode == m && in(new int[] {x, y, z}, heap.box)) {
                return 1;
            }
        }
        return 0;
    }

    int many(int m) {
        if (noMode(m)) {
            return BAD;
        }
        look();
        BitSet seen = new BitSet();
        for (Heap heap : heaps) {
            if (heap.mode != m) {
                continue;
            }
            for (int x = heap.box[0][0]; x <= heap.box[0][1]; x++) {
                for (int y = heap.box[1][0]; y <= heap.box[1][1]; y++) {
                    for (int z = heap.box[2][0]; z <= heap.box[2][1]; z++) {
                        seen.set(((x + 20) * 41 + y + 20) * 41 + z + 20);
                    }
                }
            }
        }
        return seen.cardinality();
    }

    int shown() {
        return lead() == null ? STATE : trail.size();
    }

    int shownAt(int i, int what) {
        if (what < 0 || what > 4) {
            return -100;
        }
        if (lead() == null) {
            return -102;
        }
        return i < 0 || i >= trail.size() ? -100 : trail.get(i)[what];
    }

    int fence(int m, int x, int low, int high) {
        if (noMode(m) || noSides(x, low, high, 20)) {
            return BAD;
        }
        if (modes.get(m).fence == null) {
            modes.get(m).fence = all();
        }
        modes.get(m).fence[x] = new int[] {low, high};
        return 1;
    }

    int open() {
        int had = 0;
        for (Mode mode : modes) {
            had += mode.fence == null ? 0 : 1;
            mode.fence = null;
        }
        return had;
    }

    private boolean out(int m, int[][] box) {
        return box != null && (modes.get(m).fence == null || !within(box, modes.get(m).fence));
    }

    private int[][] fenced(int m) {
        Mode mode = modes.get(m);
        return mode.fence == null ? null : both(mode.fence, mode.room);
    }

    int holds() {
        if (begins() != null && out(startMode, begins())) {
            return 1;
        }
        for (int m = 0; m < modes.size(); m++) {
            if (fenced(m) != null && out(m, afterTick(m, fenced(m)))) {
                return 10 + m;
            }
        }
        for (int j = 0; j < jumps.size(); j++) {
            int[][] from = fenced(jumps.get(j).from);
            if (from != null && out(jumps.get(j).to, afterJump(jumps.get(j), from))) {
                return 20 + j;
            }
        }
        for (int m = 0; m < modes.size(); m++) {
            if (m == wrongMode && fenced(m) != null && both(fenced(m), wrongBox) != null) {
                return 40 + m;
            }
        }
        return 0;
    }

    int run(int x, int y, int z) {
        if (far(x, y, z, 20)) {
            return BAD;
        }
        if (begins() == null || !in(new int[] {x, y, z}, begins())) {
            return STATE;
        }
        point = new int[] {x, y, z};
        place = startMode;
        steps = 0;
        return 1;
    }

    int tick(int a, int b, int c) {
        if (far(a, b, c, 5)) {
            return BAD;
        }
        if (point == null) {
            return STATE;
        }
        int[] next = {point[0] + a, point[1] + b, point[2] + c};
        if (!ticks(place, point, next)) {
            return STATE;
        }
        point = next;
        return ++steps;
    }

    int leap(int j, int x, int y, int z) {
        if (j < 0 || j >= jumps.size()) {
            return BAD;
        }
        Jump by = jumps.get(j);
        if (point == null || by.from != place) {
            return STATE;
        }
        int[] next = {x, y, z};
        for (int v = 0; v < 3; v++) {
            next[v] = by.told[v] == null ? point[v] : next[v];
        }
        if (!leaps(by, point, next)) {
            return STATE;
        }
        point = next;
        place = by.to;
        return ++steps;
    }

    int now(int what) {
        if (what < 0 || what > 7) {
            return -100;
        }
        if (point == null) {
            return -102;
        }
        int[][] here = {{point[0], point[0]}, {point[1], point[1]}, {point[2], point[2]}};
        switch (what) {
            case 0: return place;
            case 4: return steps;
            case 5: return place == wrongMode && in(point, wrongBox) ? 1 : 0;
            case 6: return afterTick(place, here) == null ? 1 : 0;
            case 7: break;
            default: return point[what - 1];
        }
        int can = 0;
        for (Jump j : jumps) {
            can += j.from == place && afterJump(j, here) != null ? 1 : 0;
        }
        return can;
    }

    int sheet(int k, int lane, int n) {
        if (k < 0 || k > 3 || lane < 0 || lane > 2 || n > 60) {
            return BAD;
        }
        if (n < 0) {
            return -14;
        }
        sheets[k] = new long[n];
        lanes[k] = lane;
        return 1;
    }

    int lay(int k, int i, int v) {
        if (k < 0 || k > 3) {
            return BAD;
        }
        if (sheets[k] == null) {
            return -11;
        }
        if (i < 0 || i >= sheets[k].length) {
            return -12;
        }
        long whole = 1L << (8 << lanes[k]);
        long bits = Math.floorMod((long) v, whole);
        sheets[k][i] = bits >= whole / 2 ? bits - whole : bits;
        return 1;
    }

    int draw(int sort, int number, int k, int lane, int f) {
        int count = sort == 2 ? jumps.size() : modes.size();
        if (sort < 0 || sort > 2 || number < 0 || number >= count || k < 0 || k > 3 || lane < 0 || lane > 2) {
            return BAD;
        }
        if (sheets[k] == null) {
            return -11;
        }
        if (lanes[k] != lane) {
            return -13;
        }
        int[][] read = new int[3][2];
        int bound = sort == 1 ? 5 : 20;
        for (int i = 0; i < 6; i++) {
            long at = (long) f + i;
            if (at < 0 || at >= sheets[k].length) {
                return -12;
            }
            long v = sheets[k][(int) at];
            if (v < -bound || v > bound || i % 2 == 1 && v < read[i / 2][0]) {
                return -20 - i;
            }
            read[i / 2][i % 2] = (int) v;
        }
        changed();
        if (sort == 0) {
            modes.get(number).room = read;
        } else if (sort == 1) {
            modes.get(number).slopes = read;
        } else {
            jumps.get(number).guard = read;
        }
        return 1;
    }

    int count(int what) {
        look();
        switch (what) {
            case 0: return modes.size();
            case 1: return jumps.size();
            case 2: return heaps.size();
            case 3: return works;
            case 4: return sheets[0] == null ? NONE : sheets[0].length;
            default: return BAD;
        }
    }
}
