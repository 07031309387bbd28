/** What the tests of the document's edges have in common: objects told of by number, answers that are compared. */
abstract class EdgeChecks {
    static final int BAD = -1, STATE = -2, NONE = -4, DOUBTFUL = -5, SPENT = -6;

    final Due due = new Due();

    void is(String call, long got, long want) {
        due.is(call, got, want);
    }

    static JumpFlows modes(int n) {
        JumpFlows x = new JumpFlows();
        for (int m = 0; m < n; m++) {
            x.mode();
        }
        return x;
    }

    /** A JUMP that makes VARIABLE v the number that is told. */
    static int jumpTo(JumpFlows x, int from, int to, int v, int number) {
        int j = x.jump(from, to);
        x.set(j, v, false, number, number);
        return j;
    }

    static int point(JumpFlows x, int which, int v, int number) {
        return x.box(which, v, number, number);
    }

    void side(JumpFlows x, int h, int v, int low, int high) {
        is("least of HEAP " + h, x.side(h, v, false), low);
        is("greatest of HEAP " + h, x.side(h, v, true), high);
    }

    void numbers(JumpFlows x, int i, int... want) {
        for (int what = 0; what < want.length; what++) {
            is("shownAt " + i + " " + what, x.shownAt(i, what), want[what]);
        }
    }

    /** MODES in which VARIABLE 0 goes up by 1 from 0 to the number that is told. */
    static JumpFlows ladder(int rungs) {
        JumpFlows x = modes(1);
        x.slope(0, 0, 1, 1);
        x.room(0, 0, 0, rungs - 1);
        return x;
    }

    /** Five MODES with twelve HEAPS each, one with as many as are told; each HEAP comes of the one ahead. */
    static JumpFlows heaped(int inTheLast) {
        JumpFlows x = modes(6);
        for (int m = 0; m < 6; m++) {
            x.slope(m, 0, 1, 1);
            x.room(m, 0, 0, m == 5 ? inTheLast - 1 : 11);
            if (m < 5) {
                x.guard(jumpTo(x, m, m + 1, 0, 0), 0, 11, 11);
            }
        }
        return x;
    }

    /**
     * Six MODES with one HEAP each, HEAP 0 to 5, that take 6 + 4a + 5b + 6c workings: HEAP 3 grows a times (VARIABLE
     * 2), and each time 2, 1, 0 are WORKED after it; then 4 grows b times (VARIABLE 1), and 3 to 0 are after it; then
     * 5 does c times (VARIABLE 0), and 4 to 0 are after it.
     */
    static JumpFlows growing(int a, int b, int c) {
        JumpFlows x = modes(6);
        x.most(1);
        for (int m = 1; m < 6; m++) {
            int j = x.jump(0, m);
            for (int v = 0; v < 3; v++) {
                x.guard(j, v, -20, -20);
            }
        }
        for (int m = 5; m > 0; m--) {
            x.jump(m, m - 1);
        }
        for (int v = 0; v < 3; v++) {
            point(x, 0, v, -20);
            x.slope(5 - v, v, 0, 1);
        }
        for (int m = 0; m < 6; m++) {
            x.room(m, 0, -20, c - 20);
            x.room(m, 1, -20, b - 20);
            x.room(m, 2, -20, a - 20);
        }
        return x;
    }
}
