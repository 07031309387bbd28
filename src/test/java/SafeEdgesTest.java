/**
 * SURE, MET, SAFE, STATES of HEAPS, SHOWN.
 * Each sentence of the document that tells where something begins or ends: what is just on this side of it and
 * what is just beyond. The sentence stands above its test.
 */
public final class SafeEdgesTest extends EdgeChecks {
    public static void main(String[] args) {
        SafeEdgesTest test = new SafeEdgesTest();
        test.sureByAllOrigins();
        test.metAtTheEdge();
        test.metOfItsModeOnly();
        test.safeBeforeSpent();
        test.doubtfulBeforeSpent();
        test.notSafeBeforeSpent();
        test.notSafeBeforeDoubtful();
        test.statesOfHeaps();
        test.statesThatOverlap();
        test.firstSureHeapThatIsMet();
        test.leastWrongState();
        test.leastStateBeforeATick();
        test.leastStateBeforeAJump();
        test.statesOfShown();
        test.longestShown();
        test.due.end("SafeEdgesTest");
    }

    /** SURE is a HEAP that is not JOINED, and whose ORIGIN (ORIGINS of that, and so on) is not. */
    private void sureByAllOrigins() {
        due.part("SURE by all its ORIGINS");
        JumpFlows x = modes(5);
        x.most(1);
        for (int m = 0; m < 4; m++) {
            x.jump(m, m + 1);
        }
        for (int h = 0; h < 5; h++) {
            is("none is JOINED: SURE " + h, x.heap(h, 4), 1);
        }
        // HEAP 2 is joined to by a JUMP of its own MODE; 3 and 4 come of what it was and of nothing else.
        int j = jumpTo(x, 2, 2, 1, 6);
        x.guard(2, 1, 0, 0);
        for (int h = 0; h < 5; h++) {
            is("JOINED " + h, x.heap(h, 3), h == 2 ? 1 : 0);
            is("SURE " + h, x.heap(h, 4), h < 2 ? 1 : 0);
        }
        x.set(j, 1, true, 0, 0);
        is("SURE again", x.heap(4, 4), 1);
        jumpTo(x, 3, 4, 2, 6);
        is("the last is JOINED", x.heap(4, 3), 1);
        is("it is not SURE", x.heap(4, 4), 0);
        is("its ORIGIN is", x.heap(3, 4), 1);
    }

    /** MET: a HEAP that has a STATE of WRONG. */
    private void metAtTheEdge() {
        for (int v = 0; v < 3; v++) {
            due.part("MET at the edge, VARIABLE " + v);
            JumpFlows x = modes(2);
            x.jump(0, 1);
            x.box(0, v, -2, 3);
            x.wrong(1);
            x.box(1, v, 3, 9);
            is("at its greatest", x.safe(), 0);
            is("MET", x.heap(1, 5), 1);
            x.box(1, v, 4, 9);
            is("just above", x.safe(), 1);
            is("not MET", x.heap(1, 5), 0);
            x.box(1, v, -9, -2);
            is("at its least", x.safe(), 0);
            x.box(1, v, -9, -3);
            is("just below", x.safe(), 1);
            point(x, 1, v, 0);
            is("in the midst", x.heap(1, 5), 1);
            x.box(1, v, -20, 20);
            is("all around", x.heap(1, 5), 1);
            // One VARIABLE that misses is enough.
            point(x, 1, (v + 1) % 3, 1);
            is("another VARIABLE misses", x.safe(), 1);
        }
    }

    /** WRONG: a MODE and a BOX. */
    private void metOfItsModeOnly() {
        due.part("MET of its MODE only");
        JumpFlows x = modes(3);
        x.jump(0, 2);
        for (int m = 0; m < 6; m++) {
            x.wrong(m);
            is("HEAP 0, WRONG " + m, x.heap(0, 5), m == 0 ? 1 : 0);
            is("HEAP 1, WRONG " + m, x.heap(1, 5), m == 2 ? 1 : 0);
            is("safe, WRONG " + m, x.safe(), m == 0 || m == 2 ? 0 : 1);
        }
    }

    /** SAFE: all HEAPS are WORKED, none is MET; else SPENT. */
    private void safeBeforeSpent() {
        due.part("SAFE or SPENT");
        JumpFlows x = heaped(4);
        x.wrong(5);
        x.box(1, 0, 4, 20);
        is("64 HEAPS, none is MET", x.safe(), 1);
        x.room(5, 0, 0, 4);
        is("the 65th would be", x.safe(), SPENT);
        is("nothing SHOWN", x.shown(), STATE);
        is("nothing SHOWN", x.shownAt(0, 0), -102);
    }

    /** DOUBTFUL (one is MET), or SPENT. */
    private void doubtfulBeforeSpent() {
        due.part("DOUBTFUL, then SPENT");
        JumpFlows x = growing(39, 39, 24);
        is("SPENT", x.safe(), SPENT);
        x.wrong(5);
        point(x, 1, 0, 4);
        is("a JOINED one is MET", x.safe(), DOUBTFUL);
        is("JOINED", x.heap(5, 3), 1);
        is("MET", x.heap(5, 5), 1);
        point(x, 1, 0, 5);
        is("out of the ROOM", x.safe(), SPENT);
        x.wrong(NONE);
        is("none", x.safe(), SPENT);
    }

    /** NOT SAFE: one that is SURE is MET. Else DOUBTFUL, or SPENT. */
    private void notSafeBeforeSpent() {
        due.part("NOT SAFE, then SPENT");
        JumpFlows x = heaped(12);
        x.wrong(5);
        is("NOT SAFE", x.safe(), 0);
        x.box(1, 0, 3, 20);
        is("the last HEAP", x.safe(), 0);
        is("SHOWN", x.shown(), 64);
        x.box(1, 0, 4, 20);
        is("what comes no more", x.safe(), SPENT);
    }

    /** NOT SAFE: one that is SURE is MET. Else DOUBTFUL (one is MET). */
    private void notSafeBeforeDoubtful() {
        due.part("NOT SAFE, then DOUBTFUL");
        JumpFlows x = ladder(9);
        x.most(3);
        x.wrong(0);
        side(x, 2, 0, 2, 8);
        is("all HEAPS are MET", x.safe(), 0);
        x.box(1, 0, 1, 20);
        is("a SURE one and the JOINED", x.safe(), 0);
        x.box(1, 0, 2, 20);
        is("the JOINED alone", x.safe(), DOUBTFUL);
        x.box(1, 0, 8, 20);
        is("its greatest", x.safe(), DOUBTFUL);
        x.box(1, 0, 9, 20);
        is("beyond", x.safe(), 1);
        x.most(9);
        x.box(1, 0, 8, 20);
        is("not JOINED", x.safe(), 0);
    }

    /** Whether a STATE is in a HEAP; how many are. */
    private void statesOfHeaps() {
        for (int v = 0; v < 3; v++) {
            due.part("a STATE at the edge of a HEAP, VARIABLE " + v);
            JumpFlows x = modes(2);
            x.box(0, v, -3, 4);
            int[] at = {0, 0, 0};
            for (int number = -20; number <= 20; number++) {
                at[v] = number;
                is("comes " + number, x.comes(0, at[0], at[1], at[2]), number >= -3 && number <= 4 ? 1 : 0);
            }
            is("many", x.many(0), 8);
            is("not of another MODE", x.comes(1, 0, 0, 0), 0);
            is("none of another MODE", x.many(1), 0);
            x.box(0, v, -20, 20);
            at[v] = -20;
            is("least of all", x.comes(0, at[0], at[1], at[2]), 1);
            at[v] = 20;
            is("greatest of all", x.comes(0, at[0], at[1], at[2]), 1);
            is("many", x.many(0), 41);
        }
    }

    /** How many STATES of a MODE are in HEAPS: each is one, in how many HEAPS ever. */
    private void statesThatOverlap() {
        for (int v = 0; v < 3; v++) {
            due.part("STATES in two HEAPS, VARIABLE " + v);
            JumpFlows x = modes(1);
            x.box(0, v, -20, 0);
            int j = x.jump(0, 0);
            x.set(j, v, false, 0, 20);
            is("one in both", x.many(0), 41);
            x.set(j, v, false, 1, 20);
            is("none in both", x.many(0), 41);
            x.set(j, v, false, 2, 20);
            is("one in none", x.many(0), 40);
            x.set(j, v, false, -20, 20);
            is("all in one", x.many(0), 41);
            x.set(j, (v + 1) % 3, false, 1, 1);
            is("apart by another VARIABLE", x.many(0), 21 + 41);
        }
    }

    /** SHOWN is the RUN to the first SURE HEAP that is MET. */
    private void firstSureHeapThatIsMet() {
        due.part("the first SURE HEAP that is MET");
        JumpFlows x = modes(3);
        x.most(2);
        jumpTo(x, 0, 0, 0, 1);
        jumpTo(x, 0, 0, 0, 2);
        int up = x.jump(0, 1);
        x.guard(up, 0, 1, 20);
        int over = x.jump(0, 2);
        x.guard(over, 0, 0, 0);
        int back = x.jump(2, 1);
        x.set(back, 0, false, 2, 5);
        // 0: MODE 0 at 0; 1: MODE 0 at 1, JOINED with 2; 2: MODE 2 at 0; 3: MODE 1 of HEAP 1; 4: MODE 1 of HEAP 2.
        side(x, 3, 0, 1, 2);
        is("not SURE", x.heap(3, 4), 0);
        side(x, 4, 0, 2, 5);
        is("SURE", x.heap(4, 4), 1);
        x.wrong(1);
        point(x, 1, 0, 1);
        is("HEAP 3 alone", x.safe(), DOUBTFUL);
        is("nothing SHOWN", x.shown(), STATE);
        point(x, 1, 0, 2);
        is("HEAP 4 too", x.safe(), 0);
        is("SHOWN", x.shown(), 3);
        numbers(x, 0, 0, 0, 0, 0, NONE);
        numbers(x, 1, 2, 0, 0, 0, 1 + over);
        numbers(x, 2, 1, 2, 0, 0, 1 + back);
        due.part("the first of two SURE HEAPS");
        JumpFlows y = ladder(5);
        y.wrong(0);
        y.box(1, 0, 2, 4);
        is("the first", y.shown(), 3);
        numbers(y, 2, 0, 2, 0, 0, 0);
        y.box(1, 0, 3, 4);
        is("the next", y.shown(), 4);
    }

    /** Its last STATE is the least of those that are WRONG there (VARIABLE 0 ahead, then 1, 2). */
    private void leastWrongState() {
        due.part("the least STATE that is WRONG");
        JumpFlows x = modes(1);
        x.wrong(0);
        for (int v = 0; v < 3; v++) {
            x.box(0, v, -3, 4);
            x.box(1, v, -20, 20);
        }
        numbers(x, 0, 0, -3, -3, -3, NONE);
        x.box(1, 0, 4, 20);
        numbers(x, 0, 0, 4, -3, -3, NONE);
        x.box(1, 1, -2, 20);
        numbers(x, 0, 0, 4, -2, -3, NONE);
        x.box(1, 2, -3, -3);
        numbers(x, 0, 0, 4, -2, -3, NONE);
        x.box(1, 2, -4, -3);
        numbers(x, 0, 0, 4, -2, -3, NONE);
        x.box(1, 2, 1, 1);
        numbers(x, 0, 0, 4, -2, 1, NONE);
        x.box(1, 0, 5, 20);
        is("not MET", x.shown(), STATE);
    }

    /** Each STATE ahead is the least one of that HEAP from which the next one can come by that TICK. */
    private void leastStateBeforeATick() {
        for (int v = 0; v < 3; v++) {
            due.part("the least STATE ahead of a TICK, VARIABLE " + v);
            JumpFlows x = modes(1);
            x.box(0, v, -3, 3);
            x.slope(0, v, -1, 2);
            x.wrong(0);
            // HEAP 1 is -4 to 5: 5 comes of 3 alone, 4 of 2 and 3, -4 of -3 alone.
            point(x, 1, v, 5);
            is("SHOWN", x.shown(), 2);
            is("ahead of 5", x.shownAt(0, 1 + v), 3);
            point(x, 1, v, 4);
            is("ahead of 4", x.shownAt(0, 1 + v), 2);
            is("4", x.shownAt(1, 1 + v), 4);
            point(x, 1, v, -4);
            is("SHOWN", x.shown(), 2);
            is("ahead of -4", x.shownAt(0, 1 + v), -3);
            is("-4", x.shownAt(1, 1 + v), -4);
            is("another VARIABLE", x.shownAt(0, 1 + (v + 1) % 3), 0);
            point(x, 1, v, 7);
            is("SHOWN", x.shown(), 3);
            is("ahead of 7", x.shownAt(1, 1 + v), 5);
            is("ahead of that", x.shownAt(0, 1 + v), 3);
            // Below 2 - 5 the HEAP's own least is the least.
            x.slope(0, v, -1, 5);
            point(x, 1, v, 4);
            is("ahead of 4 by 5", x.shownAt(0, 1 + v), -1);
            x.slope(0, v, -5, 5);
            point(x, 1, v, -5);
            is("the least of the HEAP", x.shownAt(0, 1 + v), -3);
        }
    }

    /** Each STATE ahead is the least one of that HEAP from which the next one can come by that JUMP. */
    private void leastStateBeforeAJump() {
        for (int v = 0; v < 3; v++) {
            due.part("the least STATE ahead of a JUMP, VARIABLE " + v);
            JumpFlows x = modes(2);
            int j = x.jump(0, 1);
            x.box(0, v, -3, 3);
            x.wrong(1);
            is("kept, its least", x.shownAt(0, 1 + v), -3);
            x.box(1, v, 2, 20);
            is("kept", x.shownAt(0, 1 + v), 2);
            x.set(j, v, false, 1, 9);
            is("SET", x.shownAt(1, 1 + v), 2);
            is("the HEAP's least", x.shownAt(0, 1 + v), -3);
            x.guard(j, v, -4, 20);
            is("the HEAP's least", x.shownAt(0, 1 + v), -3);
            x.guard(j, v, -2, 20);
            is("the GUARD's least", x.shownAt(0, 1 + v), -2);
            x.guard(j, v, 3, 20);
            is("the GUARD's least", x.shownAt(0, 1 + v), 3);
            is("by that JUMP", x.shownAt(1, 4), 1 + j);
            x.guard(j, v, 4, 20);
            is("out of the GUARD", x.shown(), STATE);
            x.set(j, v, true, 0, 0);
            x.guard(j, v, 1, 20);
            x.box(1, v, -20, 20);
            is("kept, in the GUARD", x.shownAt(0, 1 + v), 1);
            is("kept, in the GUARD", x.shownAt(1, 1 + v), 1);
        }
    }

    /** STATE: it is not NOT SAFE. BAD -100: what; -102; -100 also: there is no such. */
    private void statesOfShown() {
        due.part("STATES of SHOWN");
        JumpFlows x = ladder(4);
        x.wrong(0);
        for (int n = 1; n <= 4; n++) {
            point(x, 1, 0, n - 1);
            is("how many", x.shown(), n);
            is("the last", x.shownAt(n - 1, 1), n - 1);
            is("how it came", x.shownAt(n - 1, 4), n == 1 ? NONE : 0);
            is("one beyond", x.shownAt(n, 1), -100);
            is("one ahead", x.shownAt(-1, 1), -100);
            is("what 5", x.shownAt(n - 1, 5), -100);
            is("what -1", x.shownAt(n - 1, -1), -100);
        }
        point(x, 1, 0, 4);
        is("safe", x.shown(), STATE);
        is("what first", x.shownAt(0, 5), -100);
        is("then NOT SAFE", x.shownAt(0, 4), -102);
        is("then NOT SAFE", x.shownAt(-1, 0), -102);
        is("then NOT SAFE", x.shownAt(64, 0), -102);
    }

    /** As many STATES as there are HEAPS. */
    private void longestShown() {
        due.part("64 STATES");
        JumpFlows x = heaped(4);
        x.wrong(5);
        point(x, 1, 0, 3);
        is("64", x.shown(), 64);
        for (int i = 0; i < 64; i++) {
            int how = i % 12 != 0 ? 0 : i == 0 ? NONE : i / 12;
            numbers(x, i, i / 12, i % 12, 0, 0, how);
        }
        is("no 65th", x.shownAt(64, 0), -100);
    }
}
