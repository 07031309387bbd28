/**
 * Machines of MODES whose whole numbers flow at told SLOPES and jump through told GUARDS: what can
 * come of them held in HEAPS, FENCES that hold it in, RUNS gone by hand, SHEETS of BOXES. The words
 * in capitals are the document's terms.
 */
public final class JumpFlows {
    public static final int BAD = -1, STATE = -2, FULL = -3, NONE = -4, DOUBTFUL = -5, SPENT = -6;

    private static final int VARIABLES = 3, REACH = 20, STEEPEST = 5;
    private static final int ALL_MODES = 6, ALL_JUMPS = 12, ALL_HEAPS = 64, ALL_WORKS = 500, ALL_MOST = 12;
    private static final int ALL_SHEETS = 4, ALL_LANES = 3, ALL_CELLS = 60;
    private static final int NULL = 1, INDEX = 2, CAST = 3, SIZE = 4;
    private static final int FAULTS = -10, CELL_FAULTS = -20;
    private static final int TICK_OUT = 10, JUMP_OUT = 20, WRONG_IN = 40;
    /** BAD and STATE of the calls that answer with a VARIABLE's number, which -1 and -2 may be. */
    private static final int BAD_NUMBER = -100, STATE_NUMBER = -102;

    private final Machine machine = new Machine();
    private final Search search = new Search(machine);
    private final Trail trail = new Trail(machine, search);
    private final Fences fences = new Fences(machine);
    private final Hand hand = new Hand(machine);
    private final Sheet[] sheets = new Sheet[ALL_SHEETS];
    private final Box drawn = new Box();

    public JumpFlows() {
        for (int k = 0; k < ALL_SHEETS; k++) {
            sheets[k] = new Sheet();
        }
    }

    public int mode() {
        if (machine.modeCount >= ALL_MODES) {
            return FULL;
        }
        search.forget();
        return machine.modeCount++;
    }

    public int room(int m, int x, int low, int high) {
        if (!machine.hasMode(m) || !areSides(x, low, high, REACH)) {
            return BAD;
        }
        search.forget();
        machine.modes[m].space.put(x, low, high);
        return 1;
    }

    public int slope(int m, int x, int low, int high) {
        if (!machine.hasMode(m) || !areSides(x, low, high, STEEPEST)) {
            return BAD;
        }
        search.forget();
        machine.modes[m].slopes.put(x, low, high);
        return 1;
    }

    public int jump(int from, int to) {
        if (!machine.hasMode(from) || !machine.hasMode(to)) {
            return BAD;
        }
        if (machine.jumpCount >= ALL_JUMPS) {
            return FULL;
        }
        search.forget();
        Jump added = machine.jumps[machine.jumpCount];
        added.from = from;
        added.to = to;
        return machine.jumpCount++;
    }

    public int guard(int j, int x, int low, int high) {
        if (!machine.hasJump(j) || !areSides(x, low, high, REACH)) {
            return BAD;
        }
        search.forget();
        machine.jumps[j].gate.put(x, low, high);
        return 1;
    }

    public int set(int j, int x, boolean kept, int low, int high) {
        if (!machine.hasJump(j) || !isVariable(x)) {
            return BAD;
        }
        if (!kept && !areSides(x, low, high, REACH)) {
            return BAD;
        }
        search.forget();
        Jump changed = machine.jumps[j];
        changed.isSet[x] = !kept;
        if (!kept) {
            changed.told.put(x, low, high);
        }
        return 1;
    }

    public int start(int m) {
        if (m < 0 || m >= ALL_MODES) {
            return BAD;
        }
        int before = machine.startMode;
        search.forget();
        machine.startMode = m;
        return before;
    }

    public int box(int which, int x, int low, int high) {
        if (which < 0 || which > 1 || !areSides(x, low, high, REACH)) {
            return BAD;
        }
        if (which == 1) {
            machine.wrongBox.put(x, low, high);
            return 1;
        }
        search.forget();
        machine.startBox.put(x, low, high);
        return 1;
    }

    public int wrong(int m) {
        if (m != NONE && (m < 0 || m >= ALL_MODES)) {
            return BAD;
        }
        int before = machine.wrongMode;
        machine.wrongMode = m;
        return before;
    }

    public int most(int n) {
        if (n < 1 || n > ALL_MOST) {
            return BAD;
        }
        int before = search.limit;
        search.forget();
        search.limit = n;
        return before;
    }

    // ---- heaps

    public int safe() {
        search.refresh();
        return search.verdict();
    }

    public int heap(int h, int what) {
        search.refresh();
        if (!search.hasHeap(h)) {
            return BAD;
        }
        Heap asked = search.heaps[h];
        switch (what) {
            case 0:
                return asked.place;
            case 1:
                return asked.origin;
            case 2:
                return asked.how;
            case 3:
                return oneIf(asked.joined);
            case 4:
                return oneIf(asked.sure);
            case 5:
                return oneIf(machine.isMet(asked.place, asked.extent));
            default:
                return BAD;
        }
    }

    public int side(int h, int x, boolean high) {
        search.refresh();
        if (!search.hasHeap(h) || !isVariable(x)) {
            return BAD_NUMBER;
        }
        Box extent = search.heaps[h].extent;
        return high ? extent.greatest(x) : extent.least(x);
    }

    public int comes(int m, int x, int y, int z) {
        if (!machine.hasMode(m) || !areWithin(x, y, z, REACH)) {
            return BAD;
        }
        search.refresh();
        return oneIf(search.reaches(m, x, y, z));
    }

    public int many(int m) {
        if (!machine.hasMode(m)) {
            return BAD;
        }
        search.refresh();
        return search.statesOf(m);
    }

    public int shown() {
        search.refresh();
        return trail.trace() ? trail.length : STATE;
    }

    public int shownAt(int i, int what) {
        if (what < 0 || what > 4) {
            return BAD_NUMBER;
        }
        search.refresh();
        if (!trail.trace()) {
            return STATE_NUMBER;
        }
        return trail.partOf(i, what);
    }

    // ---- fences

    public int fence(int m, int x, int low, int high) {
        if (!machine.hasMode(m) || !areSides(x, low, high, REACH)) {
            return BAD;
        }
        fences.tell(machine.modes[m], x, low, high);
        return 1;
    }

    public int open() {
        return fences.clear();
    }

    public int holds() {
        return fences.firstBreach();
    }

    // ---- runs by hand

    public int run(int x, int y, int z) {
        if (!areWithin(x, y, z, REACH)) {
            return BAD;
        }
        return hand.begin(x, y, z) ? 1 : STATE;
    }

    public int tick(int a, int b, int c) {
        if (!areWithin(a, b, c, STEEPEST)) {
            return BAD;
        }
        return hand.flowBy(a, b, c) ? hand.steps : STATE;
    }

    public int leap(int j, int x, int y, int z) {
        if (!machine.hasJump(j)) {
            return BAD;
        }
        return hand.springBy(machine.jumps[j], x, y, z) ? hand.steps : STATE;
    }

    public int now(int what) {
        if (what < 0 || what > 7) {
            return BAD_NUMBER;
        }
        return hand.going ? hand.partOf(what) : STATE_NUMBER;
    }

    // ---- sheets

    public int sheet(int k, int lane, int n) {
        if (!isSheet(k) || !isLane(lane) || n > ALL_CELLS) {
            return BAD;
        }
        if (n < 0) {
            return FAULTS - SIZE;
        }
        sheets[k].renew(lane, n);
        return 1;
    }

    public int lay(int k, int i, int v) {
        if (!isSheet(k)) {
            return BAD;
        }
        return sheets[k].write(i, v);
    }

    public int draw(int sort, int number, int k, int lane, int f) {
        Box target = drawTarget(sort, number);
        if (target == null || !isSheet(k) || !isLane(lane)) {
            return BAD;
        }
        // Read whole before anything changes: a fault in a later CELL leaves the BOX as it was.
        int answer = sheets[k].read(lane, f, sort == 1 ? STEEPEST : REACH, drawn);
        if (answer == 1) {
            search.forget();
            target.copy(drawn);
        }
        return answer;
    }

    public int count(int what) {
        switch (what) {
            case 0:
                return machine.modeCount;
            case 1:
                return machine.jumpCount;
            case 2:
                search.refresh();
                return search.heapCount;
            case 3:
                search.refresh();
                return search.works;
            case 4:
                return sheets[0].lane == NONE ? NONE : sheets[0].size;
            default:
                return BAD;
        }
    }

    private Box drawTarget(int sort, int number) {
        if (sort == 0 && machine.hasMode(number)) {
            return machine.modes[number].space;
        }
        if (sort == 1 && machine.hasMode(number)) {
            return machine.modes[number].slopes;
        }
        if (sort == 2 && machine.hasJump(number)) {
            return machine.jumps[number].gate;
        }
        return null;
    }

    private static boolean isVariable(int x) {
        return x >= 0 && x < VARIABLES;
    }

    private static boolean isSheet(int k) {
        return k >= 0 && k < ALL_SHEETS;
    }

    private static boolean isLane(int lane) {
        return lane >= 0 && lane < ALL_LANES;
    }

    private static boolean areSides(int x, int low, int high, int bound) {
        return isVariable(x) && low >= -bound && low <= high && high <= bound;
    }

    private static boolean isWithin(int value, int bound) {
        return value >= -bound && value <= bound;
    }

    private static boolean areWithin(int x, int y, int z, int bound) {
        return isWithin(x, bound) && isWithin(y, bound) && isWithin(z, bound);
    }

    private static int oneIf(boolean yes) {
        return yes ? 1 : 0;
    }

    /** Of each VARIABLE the least and the greatest number. */
    private static final class Box {
        /** The least number of VARIABLE x stands at 2x, its greatest at 2x + 1, as in a SHEET. */
        private final int[] sides = new int[2 * VARIABLES];

        int least(int x) {
            return x >= 0 && x < VARIABLES ? sides[2 * x] : 0;
        }

        int greatest(int x) {
            return x >= 0 && x < VARIABLES ? sides[2 * x + 1] : 0;
        }

        void put(int x, int low, int high) {
            if (x >= 0 && x < VARIABLES) {
                sides[2 * x] = low;
                sides[2 * x + 1] = high;
            }
        }

        void putSide(int i, int value) {
            if (i >= 0 && i < sides.length) {
                sides[i] = value;
            }
        }

        void putAll(int low, int high) {
            for (int x = 0; x < VARIABLES; x++) {
                put(x, low, high);
            }
        }

        void putPoint(int x, int y, int z) {
            put(0, x, x);
            put(1, y, y);
            put(2, z, z);
        }

        void copy(Box other) {
            for (int i = 0; i < sides.length; i++) {
                sides[i] = other.sides[i];
            }
        }

        boolean isEmpty() {
            for (int x = 0; x < VARIABLES; x++) {
                if (least(x) > greatest(x)) {
                    return true;
                }
            }
            return false;
        }

        boolean has(int x, int value) {
            return least(x) <= value && value <= greatest(x);
        }

        boolean hasPoint(int x, int y, int z) {
            return has(0, x) && has(1, y) && has(2, z);
        }

        boolean covers(Box other) {
            for (int x = 0; x < VARIABLES; x++) {
                if (other.least(x) < least(x) || other.greatest(x) > greatest(x)) {
                    return false;
                }
            }
            return true;
        }

        boolean touches(Box other) {
            for (int x = 0; x < VARIABLES; x++) {
                if (other.greatest(x) < least(x) || other.least(x) > greatest(x)) {
                    return false;
                }
            }
            return true;
        }

        void meet(Box other) {
            for (int x = 0; x < VARIABLES; x++) {
                put(x, Math.max(least(x), other.least(x)), Math.min(greatest(x), other.greatest(x)));
            }
        }

        void join(Box other) {
            for (int x = 0; x < VARIABLES; x++) {
                put(x, Math.min(least(x), other.least(x)), Math.max(greatest(x), other.greatest(x)));
            }
        }

        void shift(Box slopes) {
            for (int x = 0; x < VARIABLES; x++) {
                put(x, least(x) + slopes.least(x), greatest(x) + slopes.greatest(x));
            }
        }
    }

    private static final class Mode {
        private final Box space = new Box();
        private final Box slopes = new Box();
        private final Box pale = new Box();
        private boolean fenced;

        Mode() {
            space.putAll(-REACH, REACH);
        }
    }

    private static final class Jump {
        private final Box gate = new Box();
        private final Box told = new Box();
        private final boolean[] isSet = new boolean[VARIABLES];
        private int from;
        private int to;

        Jump() {
            gate.putAll(-REACH, REACH);
        }

        boolean sets(int x) {
            return isVariable(x) && isSet[x];
        }
    }

    /** What has been told: MODES, JUMPS, START, WRONG. */
    private static final class Machine {
        private final Mode[] modes = new Mode[ALL_MODES];
        private final Jump[] jumps = new Jump[ALL_JUMPS];
        private final Box startBox = new Box();
        private final Box wrongBox = new Box();
        private int modeCount;
        private int jumpCount;
        private int startMode;
        private int wrongMode = NONE;

        Machine() {
            for (int m = 0; m < ALL_MODES; m++) {
                modes[m] = new Mode();
            }
            for (int j = 0; j < ALL_JUMPS; j++) {
                jumps[j] = new Jump();
            }
            wrongBox.putAll(-REACH, REACH);
        }

        boolean hasMode(int m) {
            return m >= 0 && m < modeCount;
        }

        boolean hasJump(int j) {
            return j >= 0 && j < jumpCount;
        }

        /** For numbers that were tested when they were kept: the index is looked at all the same. */
        Mode modeAt(int m) {
            return modes[hasMode(m) ? m : 0];
        }

        /** START's STATES; false: there are none. */
        boolean begin(Box into) {
            if (!hasMode(startMode)) {
                return false;
            }
            into.copy(startBox);
            into.meet(modes[startMode].space);
            return !into.isEmpty();
        }

        /** All that comes of a BOX, which is not empty, by a TICK; false: nothing does. */
        boolean flow(int m, Box from, Box into) {
            Mode here = modeAt(m);
            into.copy(from);
            into.shift(here.slopes);
            into.meet(here.space);
            return !into.isEmpty();
        }

        /** All that comes of a BOX, which is not empty, by a JUMP; false: nothing does. */
        boolean spring(Jump by, Box from, Box into) {
            into.copy(from);
            into.meet(by.gate);
            // A VARIABLE that is SET would hide that no STATE is in the GUARD.
            if (into.isEmpty()) {
                return false;
            }
            for (int x = 0; x < VARIABLES; x++) {
                if (by.sets(x)) {
                    into.put(x, by.told.least(x), by.told.greatest(x));
                }
            }
            into.meet(modeAt(by.to).space);
            return !into.isEmpty();
        }

        boolean isMet(int m, Box extent) {
            return wrongMode == m && wrongBox.touches(extent);
        }
    }

    private static final class Heap {
        private final Box extent = new Box();
        private int place;
        private int origin;
        private int how;
        private boolean worked;
        private boolean joined;
        private boolean sure;
    }

    /** The HEAPS of the machine as it is told now. */
    private static final class Search {
        private final Machine machine;
        private final Heap[] heaps = new Heap[ALL_HEAPS];
        private final Box from = new Box();
        private final Box next = new Box();
        private final long[] columns = new long[2 * REACH + 1];
        private int limit = ALL_MOST;
        private int heapCount;
        private int works;
        private boolean spent;
        private boolean fresh;

        Search(Machine machine) {
            this.machine = machine;
            for (int h = 0; h < ALL_HEAPS; h++) {
                heaps[h] = new Heap();
            }
        }

        void forget() {
            fresh = false;
        }

        /** WRONG is not looked at here, so it may change without a new search. */
        void refresh() {
            if (fresh) {
                return;
            }
            fresh = true;
            heapCount = 0;
            works = 0;
            spent = false;
            if (machine.begin(next)) {
                add(machine.startMode, NONE, NONE);
            }
            workAll();
            markSure();
        }

        boolean hasHeap(int h) {
            return h >= 0 && h < heapCount;
        }

        /** For numbers that were tested when they were kept: the index is looked at all the same. */
        Heap heapAt(int h) {
            return heaps[hasHeap(h) ? h : 0];
        }

        int verdict() {
            boolean met = false;
            for (int h = 0; h < heapCount; h++) {
                if (machine.isMet(heaps[h].place, heaps[h].extent)) {
                    met = true;
                    if (heaps[h].sure) {
                        return 0;
                    }
                }
            }
            if (met) {
                return DOUBTFUL;
            }
            return spent ? SPENT : 1;
        }

        /** The first SURE HEAP that is MET; NONE: there is none. */
        int firstProof() {
            for (int h = 0; h < heapCount; h++) {
                if (heaps[h].sure && machine.isMet(heaps[h].place, heaps[h].extent)) {
                    return h;
                }
            }
            return NONE;
        }

        boolean reaches(int m, int x, int y, int z) {
            for (int h = 0; h < heapCount; h++) {
                if (heaps[h].place == m && heaps[h].extent.hasPoint(x, y, z)) {
                    return true;
                }
            }
            return false;
        }

        int statesOf(int m) {
            int sum = 0;
            for (int x = -REACH; x <= REACH; x++) {
                sum += statesOfSlice(m, x);
            }
            return sum;
        }

        /** HEAPS overlap, so the numbers of VARIABLE 2 are kept as bits, a column for each of VARIABLE 1. */
        private int statesOfSlice(int m, int x) {
            for (int i = 0; i < columns.length; i++) {
                columns[i] = 0;
            }
            for (int h = 0; h < heapCount; h++) {
                if (heaps[h].place == m && heaps[h].extent.has(0, x)) {
                    mark(heaps[h].extent);
                }
            }
            int sum = 0;
            for (int i = 0; i < columns.length; i++) {
                sum += Long.bitCount(columns[i]);
            }
            return sum;
        }

        private void mark(Box extent) {
            int width = extent.greatest(2) - extent.least(2) + 1;
            long bits = ((1L << width) - 1) << (extent.least(2) + REACH);
            for (int i = 0; i < columns.length; i++) {
                if (extent.has(1, i - REACH)) {
                    columns[i] |= bits;
                }
            }
        }

        private void workAll() {
            for (int turn = 0; turn <= ALL_WORKS; turn++) {
                int h = firstToWork();
                if (h == NONE || spent) {
                    return;
                }
                if (works >= ALL_WORKS) {
                    spent = true;
                    return;
                }
                work(h);
            }
        }

        private int firstToWork() {
            for (int h = 0; h < heapCount; h++) {
                if (!heaps[h].worked) {
                    return h;
                }
            }
            return NONE;
        }

        private void work(int h) {
            Heap chosen = heapAt(h);
            int here = chosen.place;
            works++;
            // WORKED from the outset, so that a join to this very HEAP can take it back.
            chosen.worked = true;
            from.copy(chosen.extent);
            if (machine.flow(here, from, next)) {
                take(here, h, 0);
            }
            for (int j = 0; j < machine.jumpCount && !spent; j++) {
                Jump by = machine.jumps[j];
                if (by.from == here && machine.spring(by, from, next)) {
                    take(by.to, h, 1 + j);
                }
            }
        }

        /** Takes what came, which stands in next. */
        private void take(int m, int origin, int how) {
            int latest = NONE;
            int alike = 0;
            for (int h = 0; h < heapCount; h++) {
                if (heaps[h].place == m) {
                    if (heaps[h].extent.covers(next)) {
                        return;
                    }
                    latest = h;
                    alike++;
                }
            }
            if (alike >= limit && latest != NONE) {
                heaps[latest].extent.join(next);
                heaps[latest].joined = true;
                heaps[latest].worked = false;
            } else {
                add(m, origin, how);
            }
        }

        private void add(int m, int origin, int how) {
            if (heapCount >= ALL_HEAPS) {
                spent = true;
                return;
            }
            Heap added = heaps[heapCount];
            added.extent.copy(next);
            added.place = m;
            added.origin = origin;
            added.how = how;
            added.worked = false;
            added.joined = false;
            heapCount++;
        }

        /** An ORIGIN has a lesser number than what came of it, so one pass is enough. */
        private void markSure() {
            for (int h = 0; h < heapCount; h++) {
                int origin = heaps[h].origin;
                boolean sureBefore = origin == NONE || (hasHeap(origin) && heaps[origin].sure);
                heaps[h].sure = sureBefore && !heaps[h].joined;
            }
        }
    }

    /** SHOWN: the RUN to the first SURE HEAP that is MET. */
    private static final class Trail {
        private final Machine machine;
        private final Search search;
        /** The HEAPS from the goal back to START. */
        private final int[] path = new int[ALL_HEAPS];
        /** The numbers of STATE i stand from VARIABLES * i on. */
        private final int[] numbers = new int[VARIABLES * ALL_HEAPS];
        private int length;

        Trail(Machine machine, Search search) {
            this.machine = machine;
            this.search = search;
        }

        /** False: it is not NOT SAFE. */
        boolean trace() {
            int goal = search.firstProof();
            if (goal == NONE) {
                return false;
            }
            layPath(goal);
            for (int x = 0; x < VARIABLES; x++) {
                int value = Math.max(search.heapAt(goal).extent.least(x), machine.wrongBox.least(x));
                put(length - 1, x, value);
                for (int i = length - 2; i >= 0; i--) {
                    value = leastBefore(i, x, value);
                    put(i, x, value);
                }
            }
            return true;
        }

        int partOf(int i, int what) {
            if (i < 0 || i >= length) {
                return BAD_NUMBER;
            }
            switch (what) {
                case 0:
                    return heapOf(i).place;
                case 4:
                    return heapOf(i).how;
                default:
                    return isVariable(what - 1) ? numbers[VARIABLES * i + what - 1] : BAD_NUMBER;
            }
        }

        private void put(int i, int x, int value) {
            if (i >= 0 && i < ALL_HEAPS && isVariable(x)) {
                numbers[VARIABLES * i + x] = value;
            }
        }

        private void layPath(int goal) {
            length = 0;
            for (int at = goal; search.hasHeap(at) && length < ALL_HEAPS; at = search.heaps[at].origin) {
                path[length] = at;
                length++;
            }
        }

        /** The HEAP that STATE i is of. */
        private Heap heapOf(int i) {
            return search.heapAt(i >= 0 && i < length ? path[length - 1 - i] : NONE);
        }

        /** The least number from which the next STATE's can come; each VARIABLE's is its own matter. */
        private int leastBefore(int i, int x, int after) {
            Heap there = heapOf(i);
            int how = heapOf(i + 1).how;
            if (how == 0) {
                int steepest = machine.modeAt(there.place).slopes.greatest(x);
                return Math.max(there.extent.least(x), after - steepest);
            }
            if (machine.hasJump(how - 1) && machine.jumps[how - 1].sets(x)) {
                return Math.max(there.extent.least(x), machine.jumps[how - 1].gate.least(x));
            }
            return after;
        }
    }

    /** The FENCE: the BOXES told of MODES. */
    private static final class Fences {
        private final Machine machine;
        private final Box inside = new Box();
        private final Box next = new Box();

        Fences(Machine machine) {
            this.machine = machine;
        }

        void tell(Mode of, int x, int low, int high) {
            if (!of.fenced) {
                of.pale.putAll(-REACH, REACH);
                of.fenced = true;
            }
            of.pale.put(x, low, high);
        }

        int clear() {
            int had = 0;
            for (int m = 0; m < machine.modeCount; m++) {
                if (machine.modes[m].fenced) {
                    machine.modes[m].fenced = false;
                    had++;
                }
            }
            return had;
        }

        /** 0: it HOLDS. */
        int firstBreach() {
            if (machine.begin(next) && !keeps(machine.startMode)) {
                return 1;
            }
            int tick = firstTickOut();
            if (tick != NONE) {
                return TICK_OUT + tick;
            }
            int jump = firstJumpOut();
            if (jump != NONE) {
                return JUMP_OUT + jump;
            }
            int wrong = machine.wrongMode;
            return enter(wrong) && machine.isMet(wrong, inside) ? WRONG_IN + wrong : 0;
        }

        private int firstTickOut() {
            for (int m = 0; m < machine.modeCount; m++) {
                if (enter(m) && machine.flow(m, inside, next) && !keeps(m)) {
                    return m;
                }
            }
            return NONE;
        }

        private int firstJumpOut() {
            for (int j = 0; j < machine.jumpCount; j++) {
                Jump by = machine.jumps[j];
                if (enter(by.from) && machine.spring(by, inside, next) && !keeps(by.to)) {
                    return j;
                }
            }
            return NONE;
        }

        /** Whether what came, which stands in next, is within the FENCE of its MODE. */
        private boolean keeps(int m) {
            return machine.hasMode(m) && machine.modes[m].fenced && machine.modes[m].pale.covers(next);
        }

        /** Puts a FENCE's STATES inside; false: there are none. */
        private boolean enter(int m) {
            if (!machine.hasMode(m) || !machine.modes[m].fenced) {
                return false;
            }
            inside.copy(machine.modes[m].pale);
            inside.meet(machine.modes[m].space);
            return !inside.isEmpty();
        }
    }

    /** The RUN that is gone by hand. */
    private static final class Hand {
        private final Machine machine;
        private final Box point = new Box();
        private final Box next = new Box();
        private int place;
        private int steps;
        private boolean going;

        Hand(Machine machine) {
            this.machine = machine;
        }

        boolean begin(int x, int y, int z) {
            if (!machine.begin(next) || !next.hasPoint(x, y, z)) {
                return false;
            }
            place = machine.startMode;
            point.putPoint(x, y, z);
            steps = 0;
            going = true;
            return true;
        }

        boolean flowBy(int a, int b, int c) {
            if (!going || !machine.modeAt(place).slopes.hasPoint(a, b, c)) {
                return false;
            }
            next.putPoint(point.least(0) + a, point.least(1) + b, point.least(2) + c);
            return stepInto(place);
        }

        boolean springBy(Jump by, int x, int y, int z) {
            if (!going || by.from != place || !by.gate.covers(point)) {
                return false;
            }
            next.putPoint(x, y, z);
            for (int v = 0; v < VARIABLES; v++) {
                if (!by.sets(v)) {
                    next.put(v, point.least(v), point.least(v));
                } else if (!by.told.has(v, next.least(v))) {
                    return false;
                }
            }
            return stepInto(by.to);
        }

        int partOf(int what) {
            switch (what) {
                case 0:
                    return place;
                case 4:
                    return steps;
                case 5:
                    return oneIf(machine.isMet(place, point));
                case 6:
                    return oneIf(!machine.flow(place, point, next));
                case 7:
                    return openJumps();
                default:
                    return point.least(what - 1);
            }
        }

        private boolean stepInto(int m) {
            if (!machine.modeAt(m).space.covers(next)) {
                return false;
            }
            place = m;
            point.copy(next);
            steps++;
            return true;
        }

        private int openJumps() {
            int sum = 0;
            for (int j = 0; j < machine.jumpCount; j++) {
                if (machine.jumps[j].from == place && machine.spring(machine.jumps[j], point, next)) {
                    sum++;
                }
            }
            return sum;
        }
    }

    /** A row of BYTES, SHORTS or INTS, or nothing. */
    private static final class Sheet {
        private final int[] cells = new int[ALL_CELLS];
        private int lane = NONE;
        private int size;

        void renew(int newLane, int newSize) {
            lane = newLane;
            size = Math.min(newSize, ALL_CELLS);
            for (int i = 0; i < ALL_CELLS; i++) {
                cells[i] = 0;
            }
        }

        int write(int i, int value) {
            if (lane == NONE) {
                return FAULTS - NULL;
            }
            if (!hasCell(i)) {
                return FAULTS - INDEX;
            }
            cells[i] = lowestBits(value);
            return 1;
        }

        /** Six CELLS from f on; 1 if they are a BOX with numbers from -bound to bound. */
        int read(int asLane, int f, int bound, Box into) {
            if (lane == NONE) {
                return FAULTS - NULL;
            }
            if (lane != asLane) {
                return FAULTS - CAST;
            }
            int before = 0;
            for (int i = 0; i < 2 * VARIABLES; i++) {
                if (!hasCell(f + i)) {
                    return FAULTS - INDEX;
                }
                int value = cells[f + i];
                boolean isGreatest = i % 2 == 1;
                if (!isWithin(value, bound) || (isGreatest && value < before)) {
                    return CELL_FAULTS - i;
                }
                into.putSide(i, value);
                before = value;
            }
            return 1;
        }

        private boolean hasCell(int i) {
            return i >= 0 && i < size && i < ALL_CELLS;
        }

        private int lowestBits(int value) {
            if (lane == 0) {
                return (byte) value;
            }
            return lane == 1 ? (short) value : value;
        }
    }
}
