import java.util.function.Supplier;

/**
 * Of each promise: every number that is told at its least and its greatest, and one beyond each; the order of
 * answers where more than one thing is not as told; what is refused changes nothing.
 */
public final class BoundsTest {
    private static final int BAD = -1, STATE = -2, FULL = -3, NONE = -4;
    private static final int MIN = Integer.MIN_VALUE, MAX = Integer.MAX_VALUE;

    private final Due due = new Due();
    private final Twins fresh = twins(JumpFlows::new);
    private final Twins small = twins(BoundsTest::small);
    private final Twins idle = twins(BoundsTest::idle);
    private final Twins full = twins(BoundsTest::full);

    public static void main(String[] args) {
        BoundsTest test = new BoundsTest();
        test.newObject();
        test.modes();
        test.rooms();
        test.slopes();
        test.jumps();
        test.guards();
        test.sets();
        test.starts();
        test.boxes();
        test.wrongs();
        test.mosts();
        test.heaps();
        test.sides();
        test.comes();
        test.manies();
        test.showns();
        test.fences();
        test.opens();
        test.runs();
        test.ticks();
        test.leaps();
        test.nows();
        test.sheets();
        test.lays();
        test.draws();
        test.drawsOfCells();
        test.counts();
        test.due.end("BoundsTest");
    }

    private Twins twins(Supplier<JumpFlows> maker) {
        return new Twins(due, maker);
    }

    /** Two MODES, two JUMPS, four HEAPS, all SHEETS but the last; no RUN, no FENCE, no WRONG. */
    private static JumpFlows idle() {
        JumpFlows x = new JumpFlows();
        x.mode();
        x.mode();
        x.jump(0, 1);
        x.jump(1, 1);
        x.slope(1, 0, -1, 2);
        x.room(1, 0, -3, 3);
        x.set(1, 1, false, 4, 6);
        x.guard(1, 0, 1, 3);
        x.box(0, 2, -1, 1);
        x.most(3);
        for (int k = 0; k < 3; k++) {
            x.sheet(k, k, 6 + k);
            for (int i = 0; i < 6; i++) {
                x.lay(k, i, i % 2 == 0 ? -k : k + 1);
            }
        }
        return x;
    }

    /** As idle, with a RUN, FENCES, WRONG. */
    private static JumpFlows small() {
        JumpFlows x = idle();
        x.wrong(1);
        for (int v = 0; v < 3; v++) {
            x.box(1, v, -2, 1);
        }
        x.fence(0, 1, -4, 4);
        x.run(0, 0, 1);
        x.tick(0, 0, 0);
        x.leap(0, 0, 0, 0);
        return x;
    }

    /** All MODES, all JUMPS, all SHEETS of all CELLS, all FENCES. */
    private static JumpFlows full() {
        JumpFlows x = new JumpFlows();
        for (int m = 0; m < 6; m++) {
            x.mode();
            x.fence(m, 0, -m, m);
        }
        for (int j = 0; j < 12; j++) {
            x.jump(j % 6, (j + 1) % 6);
        }
        for (int k = 0; k < 4; k++) {
            x.sheet(k, k % 3, 60);
            x.lay(k, 1, 1);
        }
        x.run(0, 0, 0);
        return x;
    }

    private static Object[] row(Object... one) {
        return one;
    }

    private static Object[] with(Object[] given, int at, Object one) {
        Object[] changed = given.clone();
        changed[at] = one;
        return changed;
    }

    /** Each of the numbers in turn stands for number at in a call that is else as told: refused. */
    private void refuses(Twins of, int answer, String name, Object[] given, int at, int... beyond) {
        for (int one : beyond) {
            of.refused(answer, name, with(given, at, one));
        }
    }

    private void takes(Twins of, int answer, String name, Object[] given, int at, int... edges) {
        for (int one : edges) {
            of.taken(answer, name, with(given, at, one));
        }
    }

    private void answers(Twins of, int answer, String name, Object[] given, int at, int... edges) {
        for (int one : edges) {
            of.asked(answer, name, with(given, at, one));
        }
    }

    private static final int[] NO_VARIABLE = {-1, 3, MIN, MAX};

    /** The least stands at a place, the greatest after it: -bound to bound each, the least at most the greatest. */
    private void sidesAreRefused(String name, Object[] given, int at, int bound) {
        Object[] wide = with(with(given, at, -bound), at + 1, bound);
        refuses(small, BAD, name, wide, at, -bound - 1, bound + 1, MIN, MAX);
        refuses(small, BAD, name, wide, at + 1, bound + 1, -bound - 1, MAX, MIN);
        Object[] narrow = with(with(given, at, 2), at + 1, 2);
        refuses(small, BAD, name, narrow, at, 3);
        refuses(small, BAD, name, narrow, at + 1, 1);
    }

    /** What sidesAreRefused has, just within the bounds. */
    private void sidesAreTaken(String name, Object[] given, int at, int bound) {
        Object[] both = with(with(given, at, -bound), at + 1, -bound);
        small.taken(1, name, both);
        small.taken(1, name, with(with(both, at, bound), at + 1, bound));
        small.taken(1, name, with(with(both, at, 2), at + 1, 2));
        small.taken(1, name, with(with(both, at, 2), at + 1, 3));
        small.taken(1, name, with(with(both, at, -bound + 1), at + 1, bound));
        small.taken(1, name, with(with(both, at, -bound), at + 1, bound - 1));
    }

    private void newObject() {
        due.part("promise 1: no MODES, JUMPS, WRONG, FENCE, RUN; SHEETS have nothing");
        fresh.asked(0, "count", 0);
        fresh.asked(0, "count", 1);
        fresh.asked(0, "count", 2);
        fresh.asked(0, "count", 3);
        fresh.asked(NONE, "count", 4);
        fresh.refused(BAD, "room", 0, 0, 0, 0);
        fresh.refused(BAD, "slope", 0, 0, 0, 0);
        fresh.refused(BAD, "jump", 0, 0);
        fresh.refused(BAD, "guard", 0, 0, 0, 0);
        fresh.refused(BAD, "set", 0, 0, true, 0, 0);
        fresh.refused(BAD, "heap", 0, 0);
        fresh.refused(-100, "side", 0, 0, false);
        fresh.refused(BAD, "comes", 0, 0, 0, 0);
        fresh.refused(BAD, "many", 0);
        fresh.asked(1, "safe");
        fresh.refused(STATE, "shown");
        fresh.refused(-102, "shownAt", 0, 0);
        fresh.refused(BAD, "fence", 0, 0, 0, 0);
        fresh.asked(0, "open");
        fresh.asked(0, "holds");
        fresh.refused(STATE, "run", 0, 0, 0);
        fresh.refused(STATE, "tick", 0, 0, 0);
        fresh.refused(BAD, "leap", 0, 0, 0, 0);
        fresh.refused(-102, "now", 0);
        refuses(fresh, -11, "lay", row(0, 0, 0), 0, 0, 1, 2, 3);
        fresh.refused(BAD, "draw", 0, 0, 0, 0, 0);
        // What is told again as it was changes nothing: so it was that at first.
        fresh.asked(0, "start", 0);
        fresh.asked(NONE, "wrong", NONE);
        fresh.asked(12, "most", 12);
        for (int v = 0; v < 3; v++) {
            fresh.asked(1, "box", 0, v, 0, 0);
            fresh.asked(1, "box", 1, v, -20, 20);
        }
    }

    private void modes() {
        due.part("promise 2: six MODES, then FULL");
        fresh.taken(0, "mode");
        small.taken(2, "mode");
        full.refused(FULL, "mode");
        twins(() -> modes(5)).taken(5, "mode");
        twins(() -> modes(6)).refused(FULL, "mode");
    }

    private static JumpFlows modes(int n) {
        JumpFlows x = new JumpFlows();
        for (int m = 0; m < n; m++) {
            x.mode();
        }
        return x;
    }

    private void rooms() {
        due.part("promise 3: MODE, VARIABLE, -20 to 20, the least at most the greatest");
        Object[] given = {0, 0, -7, 7};
        takes(small, 1, "room", given, 0, 0, 1);
        refuses(small, BAD, "room", given, 0, -1, 2, 6, MIN, MAX);
        takes(full, 1, "room", given, 0, 0, 5);
        refuses(full, BAD, "room", given, 0, -1, 6);
        takes(small, 1, "room", given, 1, 0, 1, 2);
        refuses(small, BAD, "room", given, 1, NO_VARIABLE);
        sidesAreTaken("room", row(1, 0, 0, 0), 2, 20);
        for (int v = 0; v < 3; v++) {
            sidesAreRefused("room", row(1, v, 0, 0), 2, 20);
        }
        twins(() -> modes(1)).asked(1, "room", 0, 0, -20, 20);
    }

    private void slopes() {
        due.part("promise 4: MODE, VARIABLE, -5 to 5, the least at most the greatest");
        Object[] given = {0, 0, -4, 4};
        takes(small, 1, "slope", given, 0, 0, 1);
        refuses(small, BAD, "slope", given, 0, -1, 2, 6, MIN, MAX);
        takes(full, 1, "slope", given, 0, 0, 5);
        refuses(full, BAD, "slope", given, 0, -1, 6);
        takes(small, 1, "slope", given, 1, 0, 1, 2);
        refuses(small, BAD, "slope", given, 1, NO_VARIABLE);
        sidesAreTaken("slope", row(1, 0, 0, 0), 2, 5);
        for (int v = 0; v < 3; v++) {
            sidesAreRefused("slope", row(1, v, 0, 0), 2, 5);
        }
        twins(() -> modes(1)).asked(1, "slope", 0, 0, 0, 0);
    }

    private void jumps() {
        due.part("promise 5: both MODES; twelve JUMPS, then FULL");
        for (int from = 0; from < 2; from++) {
            small.taken(2, "jump", from, 0);
            small.taken(2, "jump", from, 1);
            refuses(small, BAD, "jump", row(from, 0), 1, -1, 2, 6, MIN, MAX);
            refuses(small, BAD, "jump", row(0, from), 0, -1, 2, 6, MIN, MAX);
        }
        full.refused(FULL, "jump", 0, 5);
        full.refused(FULL, "jump", 5, 5);
        refuses(full, BAD, "jump", row(0, 0), 0, -1, 6);
        refuses(full, BAD, "jump", row(0, 0), 1, -1, 6);
        twins(() -> jumps(11)).taken(11, "jump", 0, 0);
        twins(() -> jumps(12)).refused(FULL, "jump", 0, 0);
        twins(() -> jumps(12)).refused(BAD, "jump", 0, 1);
        twins(() -> jumps(12)).refused(BAD, "jump", 1, 0);
    }

    private static JumpFlows jumps(int n) {
        JumpFlows x = modes(1);
        for (int j = 0; j < n; j++) {
            x.jump(0, 0);
        }
        return x;
    }

    private void guards() {
        due.part("promise 6: JUMP, VARIABLE, -20 to 20, the least at most the greatest");
        Object[] given = {0, 0, -7, 7};
        takes(small, 1, "guard", given, 0, 0, 1);
        refuses(small, BAD, "guard", given, 0, -1, 2, 12, MIN, MAX);
        takes(full, 1, "guard", given, 0, 0, 11);
        refuses(full, BAD, "guard", given, 0, -1, 12);
        takes(small, 1, "guard", given, 1, 0, 1, 2);
        refuses(small, BAD, "guard", given, 1, NO_VARIABLE);
        sidesAreTaken("guard", row(0, 0, 0, 0), 2, 20);
        for (int v = 0; v < 3; v++) {
            sidesAreRefused("guard", row(1, v, 0, 0), 2, 20);
        }
        twins(() -> jumps(1)).asked(1, "guard", 0, 0, -20, 20);
    }

    private void sets() {
        due.part("promise 7: JUMP, VARIABLE, -20 to 20 unless it is kept");
        Object[] given = {0, 0, false, -7, 7};
        takes(small, 1, "set", given, 0, 0, 1);
        refuses(small, BAD, "set", given, 0, -1, 2, 12, MIN, MAX);
        takes(full, 1, "set", given, 0, 0, 11);
        refuses(full, BAD, "set", given, 0, -1, 12);
        takes(small, 1, "set", given, 1, 0, 1, 2);
        refuses(small, BAD, "set", given, 1, NO_VARIABLE);
        sidesAreTaken("set", row(0, 0, false, 0, 0), 3, 20);
        for (int v = 0; v < 3; v++) {
            sidesAreRefused("set", row(1, v, false, 0, 0), 3, 20);
        }
        Object[] kept = {1, 1, true, 0, 0};
        refuses(small, BAD, "set", kept, 0, -1, 2, 12, MIN, MAX);
        refuses(small, BAD, "set", kept, 1, NO_VARIABLE);
        small.taken(1, "set", 1, 1, true, 0, 0);
        small.taken(1, "set", 1, 1, true, 1, 0);
        small.taken(1, "set", 1, 1, true, -21, 21);
        small.taken(1, "set", 1, 1, true, MAX, MIN);
        small.asked(1, "set", 1, 0, true, MAX, MIN);
    }

    private void starts() {
        due.part("promise 8: any 0 to 5");
        takes(small, 0, "start", row(0), 0, 1, 2, 5);
        takes(fresh, 0, "start", row(0), 0, 1, 5);
        small.asked(0, "start", 0);
        refuses(small, BAD, "start", row(0), 0, -1, 6, NONE, MIN, MAX);
        refuses(fresh, BAD, "start", row(0), 0, -1, 6);
    }

    private void boxes() {
        due.part("promise 9: START, WRONG; VARIABLE, -20 to 20, the least at most the greatest");
        Object[] given = {0, 0, -7, 7};
        takes(small, 1, "box", given, 0, 0, 1);
        takes(fresh, 1, "box", given, 0, 0, 1);
        refuses(small, BAD, "box", given, 0, -1, 2, MIN, MAX);
        for (int which = 0; which < 2; which++) {
            takes(small, 1, "box", with(given, 0, which), 1, 0, 1, 2);
            refuses(small, BAD, "box", with(given, 0, which), 1, NO_VARIABLE);
            sidesAreTaken("box", row(which, 0, 0, 0), 2, 20);
            for (int v = 0; v < 3; v++) {
                sidesAreRefused("box", row(which, v, 0, 0), 2, 20);
            }
        }
    }

    private void wrongs() {
        due.part("promise 10: 0 to 5; NONE");
        takes(small, 1, "wrong", row(0), 0, 0, 5, NONE);
        takes(fresh, NONE, "wrong", row(0), 0, 0, 5);
        small.asked(1, "wrong", 1);
        refuses(small, BAD, "wrong", row(0), 0, -1, -2, -3, -5, 6, MIN, MAX);
        refuses(fresh, BAD, "wrong", row(0), 0, -1, -3, -5, 6);
    }

    private void mosts() {
        due.part("promise 11: 1 to 12");
        takes(small, 3, "most", row(0), 0, 1, 2, 4, 12);
        small.asked(3, "most", 3);
        refuses(small, BAD, "most", row(0), 0, 0, 13, -1, MIN, MAX);
        takes(fresh, 12, "most", row(0), 0, 1, 11);
        refuses(fresh, BAD, "most", row(0), 0, 0, 13);
    }

    private void heaps() {
        due.part("promise 13: HEAP, what");
        int last = idle().count(2) - 1;
        due.is("HEAPS", last, 3);
        answers(idle, 0, "heap", row(0, 0), 0, 0);
        answers(idle, 1, "heap", row(0, 0), 0, 1, last);
        refuses(idle, BAD, "heap", row(0, 0), 0, -1, last + 1, 63, 64, MIN, MAX);
        answers(idle, 0, "heap", row(0, 0), 1, 0, 3, 5);
        refuses(idle, BAD, "heap", row(0, 0), 1, -1, 6, MIN, MAX);
        refuses(fresh, BAD, "heap", row(0, 0), 0, 0, -1);
    }

    private void sides() {
        due.part("promise 14: HEAP, VARIABLE");
        int last = idle().count(2) - 1;
        idle.asked(-1, "side", 0, 2, false);
        idle.asked(1, "side", 0, 2, true);
        idle.asked(-3, "side", last, 0, false);
        for (int v = 0; v < 3; v++) {
            refuses(idle, -100, "side", row(0, v, true), 0, -1, last + 1, 64, MIN, MAX);
            refuses(idle, -100, "side", row(0, v, false), 0, -1, last + 1, 64, MIN, MAX);
        }
        refuses(idle, -100, "side", row(0, 0, true), 1, NO_VARIABLE);
        refuses(idle, -100, "side", row(0, 0, false), 1, NO_VARIABLE);
    }

    private void comes() {
        due.part("promise 15: MODE, numbers -20 to 20");
        answers(idle, 1, "comes", row(0, 0, 0, 0), 0, 0, 1);
        refuses(idle, BAD, "comes", row(0, 0, 0, 0), 0, -1, 2, 6, MIN, MAX);
        for (int v = 1; v < 4; v++) {
            answers(idle, 0, "comes", row(0, 0, 0, 0), v, -20, 20);
            refuses(idle, BAD, "comes", row(0, 0, 0, 0), v, -21, 21, MIN, MAX);
        }
        answers(full, 1, "comes", row(0, 0, 0, 0), 0, 0, 5);
        refuses(full, BAD, "comes", row(0, 0, 0, 0), 0, -1, 6);
    }

    private void manies() {
        due.part("promise 16: MODE");
        idle.asked(3, "many", 0);
        idle.asked(7 * 7 * 3, "many", 1);
        refuses(idle, BAD, "many", row(0), 0, -1, 2, 6, MIN, MAX);
        answers(full, 1, "many", row(0), 0, 0, 5);
        refuses(full, BAD, "many", row(0), 0, -1, 6);
    }

    private void showns() {
        due.part("promises 17, 18: what, then NOT SAFE, then which STATE");
        small.asked(2, "shown");
        idle.refused(STATE, "shown");
        answers(small, 0, "shownAt", row(0, 0), 0, 0);
        answers(small, 1, "shownAt", row(0, 0), 0, 1);
        refuses(small, -100, "shownAt", row(0, 0), 0, -1, 2, 64, MIN, MAX);
        small.asked(NONE, "shownAt", 0, 4);
        small.asked(1, "shownAt", 1, 4);
        for (int i = -1; i < 3; i++) {
            refuses(small, -100, "shownAt", row(i, 0), 1, -1, 5, MIN, MAX);
            refuses(idle, -100, "shownAt", row(i, 0), 1, -1, 5, MIN, MAX);
            refuses(idle, -102, "shownAt", row(i, 0), 1, 0, 4);
        }
    }

    private void fences() {
        due.part("promise 19: MODE, VARIABLE, -20 to 20, the least at most the greatest");
        Object[] given = {0, 0, -7, 7};
        takes(small, 1, "fence", given, 0, 0, 1);
        refuses(small, BAD, "fence", given, 0, -1, 2, 6, MIN, MAX);
        takes(full, 1, "fence", given, 0, 0, 5);
        refuses(full, BAD, "fence", given, 0, -1, 6);
        takes(small, 1, "fence", given, 1, 0, 1, 2);
        refuses(small, BAD, "fence", given, 1, NO_VARIABLE);
        sidesAreTaken("fence", row(1, 0, 0, 0), 2, 20);
        for (int v = 0; v < 3; v++) {
            sidesAreRefused("fence", row(1, v, 0, 0), 2, 20);
            sidesAreRefused("fence", row(0, v, 0, 0), 2, 20);
        }
    }

    private void opens() {
        due.part("promise 20: how many MODES had one");
        fresh.asked(0, "open");
        idle.asked(0, "open");
        small.taken(1, "open");
        full.taken(6, "open");
    }

    private void runs() {
        due.part("promise 22: numbers -20 to 20; a STATE of START");
        small.taken(1, "run", 0, 0, -1);
        small.taken(1, "run", 0, 0, 1);
        idle.taken(1, "run", 0, 0, 0);
        for (int v = 0; v < 3; v++) {
            refuses(small, BAD, "run", row(0, 0, 0), v, -21, 21, MIN, MAX);
            refuses(small, STATE, "run", row(0, 0, 0), v, -20, 20, -2, 2);
            refuses(idle, STATE, "run", row(0, 0, 0), v, -20, 20, -2, 2);
            refuses(fresh, BAD, "run", row(0, 0, 0), v, -21, 21);
        }
        refuses(small, STATE, "run", row(0, 0, 0), 0, -1, 1);
        refuses(small, STATE, "run", row(0, 0, 0), 1, -1, 1);
    }

    private void ticks() {
        due.part("promise 23: -5 to 5 each; then a RUN, its SLOPES, its ROOM");
        takes(small, 3, "tick", row(0, 0, 0), 0, -1, 0, 2);
        refuses(small, STATE, "tick", row(0, 0, 0), 0, -2, 3);
        for (int v = 0; v < 3; v++) {
            refuses(small, BAD, "tick", row(0, 0, 0), v, -6, 6, MIN, MAX);
            refuses(small, STATE, "tick", row(0, 0, 0), v, -5, 5);
            refuses(idle, BAD, "tick", row(0, 0, 0), v, -6, 6);
            refuses(idle, STATE, "tick", row(0, 0, 0), v, -5, 5, 0);
        }
        refuses(small, STATE, "tick", row(0, 0, 0), 1, -1, 1);
        refuses(small, STATE, "tick", row(0, 0, 0), 2, -1, 1);
    }

    private void leaps() {
        due.part("promise 24: JUMP; then a RUN, its MODE, its GUARD, SET, ROOM");
        refuses(small, BAD, "leap", row(0, 0, 0, 0), 0, -1, 2, 12, MIN, MAX);
        refuses(idle, BAD, "leap", row(0, 0, 0, 0), 0, -1, 2);
        refuses(idle, STATE, "leap", row(0, 0, 0, 0), 0, 0, 1);
        refuses(full, BAD, "leap", row(0, 0, 0, 0), 0, -1, 12);
        refuses(full, STATE, "leap", row(0, 0, 0, 0), 0, 11);
        takes(full, 1, "leap", row(0, 0, 0, 0), 0, 0, 6);
        // The RUN is in MODE 1 at 0, 0, 1: not in the GUARD of JUMP 1, nor in the MODE of JUMP 0.
        refuses(small, STATE, "leap", row(0, 0, 5, 0), 0, 0, 1);
        Twins inGuard = twins(BoundsTest::inGuard);
        takes(inGuard, 4, "leap", row(1, 0, 5, 0), 2, 4, 5, 6);
        refuses(inGuard, STATE, "leap", row(1, 0, 5, 0), 2, 3, 7, MIN, MAX);
        takes(inGuard, 4, "leap", row(1, 0, 5, 0), 1, MIN, -21, 21, MAX);
        takes(inGuard, 4, "leap", row(1, 0, 5, 0), 3, MIN, -21, 21, MAX);
    }

    /** A RUN just within the GUARD of JUMP 1. */
    private static JumpFlows inGuard() {
        JumpFlows x = small();
        x.slope(1, 0, -1, 1);
        x.tick(1, 0, 0);
        return x;
    }

    private void nows() {
        due.part("promise 25: what, then a RUN");
        small.asked(1, "now", 0);
        small.asked(2, "now", 4);
        small.asked(0, "now", 7);
        refuses(small, -100, "now", row(0), 0, -1, 8, MIN, MAX);
        refuses(idle, -100, "now", row(0), 0, -1, 8, MIN, MAX);
        refuses(idle, -102, "now", row(0), 0, 0, 1, 2, 3, 4, 5, 6, 7);
    }

    private void sheets() {
        due.part("promise 26: SHEET, lane, 0 to 60 CELLS; SIZE");
        Object[] given = {0, 0, 7};
        takes(small, 1, "sheet", given, 0, 0, 1, 2, 3);
        refuses(small, BAD, "sheet", given, 0, -1, 4, MIN, MAX);
        takes(small, 1, "sheet", given, 1, 0, 1, 2);
        refuses(small, BAD, "sheet", given, 1, -1, 3, MIN, MAX);
        takes(small, 1, "sheet", given, 2, 0, 1, 60);
        refuses(small, BAD, "sheet", given, 2, 61, MAX);
        refuses(small, -14, "sheet", given, 2, -1, MIN);
        refuses(small, BAD, "sheet", with(given, 2, -1), 0, -1, 4);
        refuses(small, BAD, "sheet", with(given, 2, -1), 1, -1, 3);
        // A SHEET that had nothing has nothing still.
        refuses(fresh, -14, "sheet", row(3, 2, 0), 2, -1);
        refuses(fresh, BAD, "sheet", row(3, 2, 0), 2, 61);
        takes(fresh, 1, "sheet", row(3, 2, 0), 2, 0, 60);
    }

    private void lays() {
        due.part("promise 27: SHEET; NULL; INDEX");
        for (int k = 0; k < 3; k++) {
            takes(small, 1, "lay", row(k, 0, 9), 1, 0, 5 + k);
            refuses(small, -12, "lay", row(k, 0, 9), 1, -1, 6 + k, 60, MIN, MAX);
        }
        refuses(small, BAD, "lay", row(0, 0, 9), 0, -1, 4, MIN, MAX);
        refuses(small, BAD, "lay", row(0, -1, 9), 0, -1, 4);
        refuses(small, -11, "lay", row(3, 0, 9), 1, 0, -1, 60, MIN, MAX);
        takes(full, 1, "lay", row(0, 0, 9), 0, 0, 1, 2, 3);
        takes(full, 1, "lay", row(3, 0, 9), 1, 0, 59);
        refuses(full, -12, "lay", row(3, 0, 9), 1, -1, 60);
    }

    private void draws() {
        due.part("promise 28: sort, number, SHEET, lane; NULL; CAST; INDEX");
        Object[] given = {0, 1, 1, 1, 0};
        takes(small, 1, "draw", given, 0, 0, 1, 2);
        refuses(small, BAD, "draw", given, 0, -1, 3, MIN, MAX);
        for (int sort = 0; sort < 3; sort++) {
            Object[] sorted = with(given, 0, sort);
            takes(small, 1, "draw", sorted, 1, 0, 1);
            refuses(small, BAD, "draw", sorted, 1, -1, 2, 12, MIN, MAX);
            takes(full, 1, "draw", sorted, 1, 0, sort == 2 ? 11 : 5);
            refuses(full, BAD, "draw", sorted, 1, -1, sort == 2 ? 12 : 6);
        }
        refuses(small, BAD, "draw", given, 2, -1, 4, MIN, MAX);
        refuses(small, -13, "draw", given, 2, 0, 2);
        refuses(small, -11, "draw", given, 2, 3);
        refuses(small, BAD, "draw", given, 3, -1, 3, MIN, MAX);
        refuses(small, -13, "draw", given, 3, 0, 2);
        takes(small, 1, "draw", given, 4, 0);
        refuses(small, -12, "draw", given, 4, -1, 7, 60, MIN, MAX, MAX - 4);
        takes(full, 1, "draw", given, 4, 54);
        refuses(full, -12, "draw", given, 4, 55, 59, 60, -1, -5, -6);
        due.part("promise 28: the first of two that do not fit");
        refuses(small, BAD, "draw", row(3, 0, 3, 0, -1), 0, 3);
        refuses(small, BAD, "draw", row(0, 2, 3, 0, -1), 1, 2);
        refuses(small, BAD, "draw", row(0, 0, 3, 3, -1), 3, 3);
        refuses(small, -11, "draw", row(0, 0, 3, 0, -1), 2, 3);
        refuses(small, -13, "draw", row(0, 0, 0, 1, -1), 2, 0);
    }

    private void drawsOfCells() {
        for (int sort = 0; sort < 3; sort++) {
            int bound = sort == 1 ? 5 : 20;
            for (int i = 0; i < 6; i++) {
                due.part("promise 28: CELL " + i + " of sort " + sort);
                int at = i;
                twins(() -> laid(at, bound + 1)).refused(-20 - i, "draw", sort, 0, 2, 2, 0);
                twins(() -> laid(at, -bound - 1)).refused(-20 - i, "draw", sort, 0, 2, 2, 0);
                boolean isLeast = i % 2 == 0;
                twins(() -> laid(at, isLeast ? -bound : bound)).taken(1, "draw", sort, 0, 2, 2, 0);
                // The least ones are -2, the greatest 3: equal, and one beyond.
                twins(() -> laid(at, isLeast ? 3 : -2)).taken(1, "draw", sort, 0, 2, 2, 0);
                twins(() -> laid(at, isLeast ? 4 : -3)).refused(isLeast ? -21 - i : -20 - i, "draw", sort, 0, 2, 2, 0);
            }
        }
    }

    /** As small, with a CELL of the INTS told anew. */
    private static JumpFlows laid(int i, int v) {
        JumpFlows x = small();
        x.lay(2, i, v);
        return x;
    }

    private void counts() {
        due.part("promise 29: what");
        idle.asked(2, "count", 0);
        idle.asked(2, "count", 1);
        idle.asked(4, "count", 2);
        idle.asked(6, "count", 4);
        fresh.asked(NONE, "count", 4);
        full.asked(60, "count", 4);
        refuses(idle, BAD, "count", row(0), 0, -1, 5, MIN, MAX);
        refuses(fresh, BAD, "count", row(0), 0, -1, 5);
    }
}
