/** Goes the same runs of calls with JumpFlows and with NaiveFlows; the choices are the same each time. */
public final class ModelTest {
    private static final int RUNS = 1500;
    private static final int CALLS = 512;

    private final Due due = new Due();
    private final int[] verdicts = new int[8];
    private long seed = 20261119L;
    private JumpFlows real;
    private NaiveFlows naive;
    private int calls;
    private int reach;
    private boolean wild;

    public static void main(String[] args) {
        ModelTest test = new ModelTest();
        for (int run = 0; run < RUNS; run++) {
            test.go(run);
        }
        // The runs are worth little if some verdict never comes up.
        test.due.part("verdicts seen");
        for (int verdict : new int[] {1, 0, JumpFlows.DOUBTFUL, JumpFlows.SPENT}) {
            test.due.is("verdict " + verdict, test.verdicts[verdict + 6] > 20 ? 1 : 0, 1);
        }
        test.due.end("ModelTest");
    }

    private int below(int n) {
        seed = seed * 6364136223846793005L + 1442695040888963407L;
        return (int) ((seed >>> 33) % n);
    }

    private int between(int low, int high) {
        return low + below(high - low + 1);
    }

    /** Mostly good, now and then just outside, seldom far outside. */
    private int pick(int low, int high) {
        int luck = wild ? below(60) : 9;
        if (luck == 0) {
            return low - 1;
        }
        if (luck == 1) {
            return high + 1;
        }
        if (luck == 2) {
            return new int[] {Integer.MIN_VALUE, Integer.MAX_VALUE, -4, 100}[below(4)];
        }
        return between(low, high);
    }

    private int[] sides(int bound) {
        int a = pick(-bound, bound);
        int b = pick(-bound, bound);
        return below(50) == 0 && wild ? new int[] {Math.max(a, b), Math.min(a, b)}
            : new int[] {Math.min(a, b), Math.max(a, b)};
    }

    private void same(String call, int got, int want) {
        calls++;
        due.is("call " + calls + " " + call, got, want);
    }

    private void go(int run) {
        real = new JumpFlows();
        naive = new NaiveFlows();
        calls = 0;
        reach = new int[] {2, 5, 20}[below(3)];
        wild = below(4) != 0;
        due.part("run " + run);
        int made = below(7);
        for (int i = 0; i < made; i++) {
            same("mode", real.mode(), naive.mode());
        }
        int told = below(60);
        for (int i = 0; i < told; i++) {
            tell();
        }
        if (below(5) == 0) {
            spread(made);
        }
        while (calls < CALLS - 40) {
            int luck = below(24);
            if (luck == 0) {
                askHeaps();
            } else if (luck < 8) {
                tell();
            } else if (luck < 14) {
                ask();
            } else if (luck < 20) {
                handle();
            } else {
                write();
            }
        }
    }

    /** Many MODES, many HEAPS each: what makes it SPENT. */
    private void spread(int made) {
        for (int m = 0; m < made; m++) {
            int s = between(0, 1);
            same("slope", real.slope(m, 0, s, 1), naive.slope(m, 0, s, 1));
            same("slope", real.slope(m, 1, 1, 1), naive.slope(m, 1, 1, 1));
            same("jump", real.jump(m, (m + 1) % made), naive.jump(m, (m + 1) % made));
        }
        for (int x = 0; x < 3; x++) {
            int v = between(-20, -10);
            same("box", real.box(0, x, v, v), naive.box(0, x, v, v));
        }
    }

    private void tell() {
        int m = pick(0, 5);
        int j = pick(0, 3 + below(9));
        int x = pick(0, 2);
        int[] s = sides(reach);
        switch (below(15)) {
            case 0:
                same("mode", real.mode(), naive.mode());
                break;
            case 1:
                same("room", real.room(m, x, s[0], s[1]), naive.room(m, x, s[0], s[1]));
                break;
            case 2:
            case 3:
            case 4:
                int[] t = sides(below(3) == 0 ? 5 : 2);
                same("slope", real.slope(m, x, t[0], t[1]), naive.slope(m, x, t[0], t[1]));
                break;
            case 5:
            case 6:
                int to = pick(0, 5);
                same("jump", real.jump(m, to), naive.jump(m, to));
                break;
            case 7:
                same("guard", real.guard(j, x, s[0], s[1]), naive.guard(j, x, s[0], s[1]));
                break;
            case 8:
            case 9:
                boolean kept = below(3) == 0;
                same("set", real.set(j, x, kept, s[0], s[1]), naive.set(j, x, kept, s[0], s[1]));
                break;
            case 10:
                int st = below(2) * m;
                same("start", real.start(st), naive.start(st));
                break;
            case 11:
                int which = pick(0, 1);
                same("box", real.box(which, x, s[0], s[1]), naive.box(which, x, s[0], s[1]));
                break;
            case 12:
            case 13:
                int w = below(6) == 0 ? -4 : m;
                same("wrong", real.wrong(w), naive.wrong(w));
                break;
            default:
                int n = below(2) == 0 ? 12 : pick(1, 12);
                same("most", real.most(n), naive.most(n));
        }
    }

    private void ask() {
        int m = pick(0, 5);
        int h = pick(0, below(2) == 0 ? 5 : 64);
        int x = pick(-reach, reach);
        int y = pick(-reach, reach);
        int z = pick(-reach, reach);
        switch (below(8)) {
            case 0:
                safe();
                break;
            case 1:
                int what = pick(0, 5);
                same("heap", real.heap(h, what), naive.heap(h, what));
                break;
            case 2:
                int v = pick(0, 2);
                boolean high = below(2) == 0;
                same("side", real.side(h, v, high), naive.side(h, v, high));
                break;
            case 3:
                same("comes", real.comes(m, x, y, z), naive.comes(m, x, y, z));
                break;
            case 4:
                same("many", real.many(m), naive.many(m));
                break;
            case 5:
                same("shown", real.shown(), naive.shown());
                break;
            case 6:
                int part = pick(0, 4);
                same("shownAt", real.shownAt(h, part), naive.shownAt(h, part));
                break;
            default:
                int of = pick(0, 4);
                same("count", real.count(of), naive.count(of));
        }
    }

    private void safe() {
        int want = naive.safe();
        verdicts[want + 6]++;
        same("safe", real.safe(), want);
    }

    private void askHeaps() {
        safe();
        same("count 2", real.count(2), naive.count(2));
        same("count 3", real.count(3), naive.count(3));
        int heaps = naive.count(2);
        for (int i = 0; i < 3 && heaps > 0; i++) {
            int h = i == 0 ? heaps - 1 : below(heaps);
            for (int what = 1; what < 5; what++) {
                same("heap " + what, real.heap(h, what), naive.heap(h, what));
            }
            same("side", real.side(h, i, true), naive.side(h, i, true));
        }
        int length = naive.shown();
        same("shown", real.shown(), length);
        for (int what = 0; what < 5 && length > 0; what++) {
            int i = below(length);
            same("shownAt " + what, real.shownAt(i, what), naive.shownAt(i, what));
        }
    }

    private void handle() {
        int m = pick(0, 5);
        int x = pick(-reach, reach);
        int y = pick(-reach, reach);
        int z = pick(-reach, reach);
        switch (below(9)) {
            case 0:
            case 1:
                int[] s = below(3) == 0 ? sides(reach) : new int[] {-20 + below(3), 20 - below(3)};
                int v = pick(0, 2);
                same("fence", real.fence(m, v, s[0], s[1]), naive.fence(m, v, s[0], s[1]));
                break;
            case 2:
                same("holds", real.holds(), naive.holds());
                break;
            case 3:
                if (below(8) == 0) {
                    same("open", real.open(), naive.open());
                }
                break;
            case 4:
                int f = below(2);
                same("run", real.run(x * f, y * f, z * f), naive.run(x * f, y * f, z * f));
                break;
            case 5:
                int a = pick(-1, 1);
                int b = pick(-1, 1);
                int c = pick(0, 1);
                same("tick", real.tick(a, b, c), naive.tick(a, b, c));
                break;
            case 6:
                int j = pick(0, 11);
                same("leap", real.leap(j, x, y, z), naive.leap(j, x, y, z));
                break;
            default:
                for (int what = -1; what < 9; what++) {
                    same("now " + what, real.now(what), naive.now(what));
                }
        }
    }

    private void write() {
        int k = pick(0, 3) * below(2);
        int lane = pick(0, 2);
        switch (below(8)) {
            case 0:
                int n = below(3) == 0 ? pick(0, 60) : pick(0, 12);
                same("sheet", real.sheet(k, lane, n), naive.sheet(k, lane, n));
                break;
            case 1:
            case 2:
            case 3:
            case 4:
            case 5:
                int i = pick(0, 11);
                int v = (i % 2 == 0 ? -1 : 1) * pick(0, below(4) == 0 ? 22 : 5) + (below(3) << (8 << below(3)));
                same("lay", real.lay(k, i, v), naive.lay(k, i, v));
                break;
            default:
                int sort = pick(0, 2);
                int number = pick(0, 5);
                int from = below(3) == 0 ? pick(0, 6) : 2 * below(3);
                int as = below(3) == 0 ? lane : 0;
                same("draw", real.draw(sort, number, k, as, from), naive.draw(sort, number, k, as, from));
        }
    }
}
