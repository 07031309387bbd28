/** Of each promise: ordinary calls, the edges that the document names, wrong numbers. */
public final class PromisesTest {
    private static final int BAD = -1, STATE = -2, FULL = -3, NONE = -4, DOUBTFUL = -5, SPENT = -6;
    private static final int MIN = Integer.MIN_VALUE, MAX = Integer.MAX_VALUE;

    private final Due due = new Due();

    public static void main(String[] args) {
        PromisesTest test = new PromisesTest();
        test.constants();
        test.newObject();
        test.modes();
        test.rooms();
        test.slopes();
        test.jumps();
        test.guards();
        test.sets();
        test.starts();
        test.boxes();
        test.wrongs();
        test.mosts();
        test.safeAndNot();
        test.sixtyFiveHeaps();
        test.fiveHundredWorks();
        test.heaps();
        test.joinsOfTheOneThatIsWorked();
        test.sureByOrigins();
        test.sides();
        test.comes();
        test.many();
        test.shown();
        test.shownByJumps();
        test.shownAtOrder();
        test.fences();
        test.holdsInOrder();
        test.holdsOfStates();
        test.runs();
        test.ticks();
        test.leaps();
        test.nows();
        test.sheets();
        test.lays();
        test.draws();
        test.drawsChangeAllOrNone();
        test.counts();
        test.due.end("PromisesTest");
    }

    private void is(String call, long got, long want) {
        due.is(call, got, want);
    }

    private static JumpFlows withModes(int n) {
        JumpFlows x = new JumpFlows();
        for (int m = 0; m < n; m++) {
            x.mode();
        }
        return x;
    }

    /** One MODE in which VARIABLE 0 goes up by 1 or 2 from 0. */
    private static JumpFlows climber() {
        JumpFlows x = withModes(1);
        x.slope(0, 0, 1, 2);
        x.room(0, 0, -5, 7);
        return x;
    }

    private void constants() {
        due.part("constants");
        is("BAD", JumpFlows.BAD, -1);
        is("STATE", JumpFlows.STATE, -2);
        is("FULL", JumpFlows.FULL, -3);
        is("NONE", JumpFlows.NONE, -4);
        is("DOUBTFUL", JumpFlows.DOUBTFUL, -5);
        is("SPENT", JumpFlows.SPENT, -6);
    }

    private void newObject() {
        due.part("promise 1");
        JumpFlows x = new JumpFlows();
        is("modes", x.count(0), 0);
        is("jumps", x.count(1), 0);
        is("heaps", x.count(2), 0);
        is("works", x.count(3), 0);
        is("sheet 0", x.count(4), NONE);
        is("open", x.open(), 0);
        is("holds", x.holds(), 0);
        is("now", x.now(0), -102);
        is("wrong", x.wrong(NONE), NONE);
        is("start", x.start(0), 0);
        is("most", x.most(12), 12);
        for (int k = 0; k < 4; k++) {
            is("lay " + k, x.lay(k, 0, 1), -11);
        }
        x.mode();
        JumpFlows other = new JumpFlows();
        is("another object's modes", other.count(0), 0);
    }

    private void modes() {
        due.part("promise 2");
        JumpFlows x = new JumpFlows();
        for (int m = 0; m < 6; m++) {
            is("mode", x.mode(), m);
        }
        is("seventh", x.mode(), FULL);
        is("count", x.count(0), 6);
        is("ROOM is all", x.box(0, 0, -20, 20) + x.many(0), 1 + 41);
        is("SLOPES are 0", x.count(2), 1);
    }

    private void rooms() {
        due.part("promise 3");
        JumpFlows x = withModes(2);
        is("all", x.room(0, 0, -20, 20), 1);
        is("one", x.room(1, 2, 3, 3), 1);
        is("no such mode", x.room(2, 0, 0, 1), BAD);
        is("mode -1", x.room(-1, 0, 0, 1), BAD);
        is("variable 3", x.room(0, 3, 0, 1), BAD);
        is("variable -1", x.room(0, -1, 0, 1), BAD);
        is("low -21", x.room(0, 0, -21, 1), BAD);
        is("high 21", x.room(0, 0, 0, 21), BAD);
        is("low above high", x.room(0, 0, 1, 0), BAD);
        is("far", x.room(MAX, MIN, MIN, MAX), BAD);
        x.box(0, 0, -20, 20);
        is("refused changes nothing", x.many(0), 41);
        x.room(0, 0, -2, 4);
        is("many", x.many(0), 7);
        x.start(1);
        is("START is not in the ROOM", x.count(2), 0);
    }

    private void slopes() {
        due.part("promise 4");
        JumpFlows x = withModes(1);
        is("steep", x.slope(0, 0, -5, 5), 1);
        is("many", x.many(0), 41);
        is("level", x.slope(0, 0, 0, 0), 1);
        is("many", x.many(0), 1);
        is("low -6", x.slope(0, 0, -6, 0), BAD);
        is("high 6", x.slope(0, 0, 0, 6), BAD);
        is("low above high", x.slope(0, 0, 2, 1), BAD);
        is("variable 3", x.slope(0, 3, 0, 0), BAD);
        is("variable -1", x.slope(0, -1, 0, 0), BAD);
        is("mode 1", x.slope(1, 0, 0, 0), BAD);
        is("mode -1", x.slope(-1, 0, 0, 0), BAD);
        is("refused changes nothing", x.many(0), 1);
        x.slope(0, 2, 5, 5);
        is("side", x.side(1, 2, false), 5);
        is("side", x.side(4, 2, true), 20);
        is("no more in the ROOM", x.count(2), 5);
    }

    private void jumps() {
        due.part("promise 5");
        JumpFlows x = withModes(2);
        is("to", x.jump(0, 2), BAD);
        is("from", x.jump(2, 0), BAD);
        is("-1", x.jump(-1, 0), BAD);
        is("-1", x.jump(0, -1), BAD);
        for (int j = 0; j < 12; j++) {
            is("jump", x.jump(j % 2, (j / 2) % 2), j);
        }
        is("thirteenth", x.jump(0, 0), FULL);
        is("BAD ahead of FULL", x.jump(0, 2), BAD);
        is("count", x.count(1), 12);
        is("kept at first", x.count(2), 2);
        JumpFlows y = withModes(2);
        is("no jump yet", y.many(1), 0);
        y.jump(0, 1);
        is("a jump", y.many(1), 1);
    }

    private void guards() {
        due.part("promise 6");
        JumpFlows x = withModes(2);
        is("no jump", x.guard(0, 0, 0, 1), BAD);
        x.jump(0, 1);
        is("all at first", x.many(1), 1);
        is("guard", x.guard(0, 0, 1, 20), 1);
        is("shut", x.many(1), 0);
        is("low -21", x.guard(0, 0, -21, 0), BAD);
        is("high 21", x.guard(0, 0, 0, 21), BAD);
        is("low above high", x.guard(0, 0, 1, 0), BAD);
        is("variable", x.guard(0, 3, 0, 0), BAD);
        is("variable", x.guard(0, -1, 0, 0), BAD);
        is("jump 1", x.guard(1, 0, 0, 0), BAD);
        is("jump -1", x.guard(-1, 0, 0, 0), BAD);
        is("still shut", x.many(1), 0);
        x.set(0, 0, false, 5, 6);
        is("SET does not open a GUARD", x.many(1), 0);
        x.guard(0, 0, -20, 0);
        is("open", x.many(1), 2);
        x.box(0, 0, -3, 3);
        x.set(0, 0, true, 0, 0);
        is("only what is in the GUARD", x.many(1), 4);
    }

    private void sets() {
        due.part("promise 7");
        JumpFlows x = withModes(2);
        is("no jump", x.set(0, 0, false, 0, 1), BAD);
        x.jump(0, 1);
        is("set", x.set(0, 0, false, -20, 20), 1);
        is("many", x.many(1), 41);
        is("low -21", x.set(0, 0, false, -21, 0), BAD);
        is("high 21", x.set(0, 0, false, 0, 21), BAD);
        is("low above high", x.set(0, 0, false, 1, 0), BAD);
        is("variable 3", x.set(0, 3, false, 0, 0), BAD);
        is("kept, variable 3", x.set(0, 3, true, 0, 0), BAD);
        is("kept, variable -1", x.set(0, -1, true, 0, 0), BAD);
        is("kept, jump 1", x.set(1, 0, true, 0, 0), BAD);
        is("kept, jump -1", x.set(-1, 0, true, 0, 0), BAD);
        is("refused changes nothing", x.many(1), 41);
        is("kept: numbers are not looked at", x.set(0, 0, true, MAX, MIN), 1);
        is("many", x.many(1), 1);
        x.set(0, 2, false, 7, 9);
        x.room(1, 2, 8, 20);
        is("all in the ROOM then", x.many(1), 2);
        is("least", x.side(1, 2, false), 8);
        is("greatest", x.side(1, 2, true), 9);
    }

    private void starts() {
        due.part("promise 8");
        JumpFlows x = withModes(1);
        is("no such mode yet", x.start(5), 0);
        is("safe", x.safe(), 1);
        is("heaps", x.count(2), 0);
        is("6", x.start(6), BAD);
        is("-1", x.start(-1), BAD);
        is("NONE", x.start(NONE), BAD);
        is("what it was", x.start(1), 5);
        x.box(0, 1, 2, 4);
        is("none", x.count(2), 0);
        x.mode();
        is("it came", x.count(2), 1);
        is("its BOX stays", x.start(0) + x.many(0), 1 + 3);
        is("START's mode", x.heap(0, 0), 0);
    }

    private void boxes() {
        due.part("promise 9");
        JumpFlows x = withModes(1);
        is("start", x.box(0, 0, -20, 20), 1);
        is("many", x.many(0), 41);
        is("wrong", x.box(1, 0, 20, 20), 1);
        is("no WRONG yet", x.safe(), 1);
        is("wrong", x.wrong(0), NONE);
        is("its BOX stays", x.safe(), 0);
        is("2", x.box(2, 0, 0, 0), BAD);
        is("-1", x.box(-1, 0, 0, 0), BAD);
        is("variable 3", x.box(0, 3, 0, 0), BAD);
        is("variable -1", x.box(1, -1, 0, 0), BAD);
        is("-21", x.box(0, 0, -21, 0), BAD);
        is("21", x.box(1, 0, 0, 21), BAD);
        is("low above high", x.box(0, 0, 1, 0), BAD);
        is("low above high", x.box(1, 0, 1, 0), BAD);
        is("refused changes nothing", x.many(0), 41);
        is("refused changes nothing", x.shown(), 1);
        is("SHOWN", x.shownAt(0, 1), 20);
        x.box(0, 0, -20, 19);
        is("START misses WRONG", x.safe(), 1);
    }

    private void wrongs() {
        due.part("promise 10");
        JumpFlows x = withModes(1);
        is("no such mode", x.wrong(5), NONE);
        is("safe", x.safe(), 1);
        is("what it was", x.wrong(0), 5);
        is("BOX is all at first", x.safe(), 0);
        is("6", x.wrong(6), BAD);
        is("-1", x.wrong(-1), BAD);
        is("-5", x.wrong(-5), BAD);
        is("refused changes nothing", x.wrong(NONE), 0);
        is("safe", x.safe(), 1);
        is("none", x.wrong(0), NONE);
        x.box(1, 0, 1, 1);
        is("safe", x.safe(), 1);
        x.wrong(NONE);
        x.wrong(0);
        is("its BOX stays", x.safe(), 1);
        x.box(1, 0, 0, 0);
        is("not safe", x.safe(), 0);
        x.box(0, 0, -2, 3);
        for (int v = -4; v <= 5; v++) {
            x.box(1, 0, v, v);
            is("WRONG at " + v, x.heap(0, 5), v >= -2 && v <= 3 ? 1 : 0);
        }
    }

    private void mosts() {
        due.part("promise 11");
        JumpFlows x = climber();
        is("12 at first", x.most(1), 12);
        is("0", x.most(0), BAD);
        is("13", x.most(13), BAD);
        is("-1", x.most(-1), BAD);
        is("refused changes nothing", x.most(1), 1);
        is("one HEAP", x.count(2), 1);
        is("joined", x.heap(0, 3), 1);
        is("least", x.side(0, 0, false), 0);
        is("greatest", x.side(0, 0, true), 7);
        is("worked", x.count(3), 5);
        x.slope(0, 0, -2, -1);
        is("joined below", x.side(0, 0, false), -5);
        is("joined below", x.side(0, 0, true), 0);
        x.slope(0, 0, 1, 2);
        is("what it was", x.most(2), 1);
        is("two HEAPS", x.count(2), 2);
    }

    private void safeAndNot() {
        due.part("promise 12");
        JumpFlows x = climber();
        is("safe", x.safe(), 1);
        x.wrong(0);
        x.box(1, 0, -20, -1);
        is("safe", x.safe(), 1);
        x.box(1, 0, -20, 0);
        is("START is WRONG", x.safe(), 0);
        x.box(1, 0, 8, 20);
        is("out of the ROOM", x.safe(), 1);
        x.box(1, 0, 7, 7);
        is("reached", x.safe(), 0);
        x.most(2);
        is("joined", x.safe(), DOUBTFUL);
        x.wrong(NONE);
        is("safe", x.safe(), 1);
        x.wrong(0);
        x.box(1, 0, 0, 0);
        is("one is SURE, one is not", x.safe(), 0);
        x.start(4);
        is("no such MODE", x.safe(), 1);
        x.start(0);
        x.box(0, 0, 8, 20);
        is("START without STATES", x.safe(), 1);
        is("no HEAPS", x.count(2), 0);
    }

    /** Six MODES in which VARIABLE 0 goes up by 1 and that all jump on to the next. */
    private static JumpFlows crowd() {
        JumpFlows x = withModes(6);
        for (int m = 0; m < 6; m++) {
            x.slope(m, 0, 1, 1);
        }
        for (int m = 0; m < 5; m++) {
            x.jump(m, m + 1);
        }
        return x;
    }

    private void sixtyFiveHeaps() {
        due.part("promise 12, a 65th HEAP");
        JumpFlows x = crowd();
        is("spent", x.safe(), SPENT);
        is("heaps", x.count(2), 64);
        is("the last", x.heap(63, 3), 0);
        is("one more", x.heap(64, 0), BAD);
        is("SPENT is no answer of shown", x.shown(), STATE);
        x.wrong(5);
        is("a SURE one is MET", x.safe(), 0);
        x.most(10);
        x.wrong(NONE);
        is("60 HEAPS are enough", x.safe(), 1);
        is("heaps", x.count(2), 60);
        JumpFlows y = withModes(6);
        for (int m = 0; m < 5; m++) {
            y.slope(m, 0, 1, 1);
            y.jump(m, m + 1);
            y.set(m, 0, false, 0, 0);
            y.room(m, 0, 0, 11);
        }
        y.room(5, 0, 0, 3);
        y.slope(5, 0, 1, 1);
        is("the 64th is no fault", y.safe(), 1);
        is("heaps", y.count(2), 64);
        is("all are WORKED", y.count(3), 64);
        y.room(5, 0, 0, 4);
        is("the 65th is", y.safe(), SPENT);
        is("heaps", y.count(2), 64);
    }

    /** Six MODES with one HEAP each, that grow one step at a time. */
    private static JumpFlows growers() {
        JumpFlows x = withModes(6);
        x.most(1);
        for (int v = 0; v < 3; v++) {
            x.box(0, v, -20, -20);
        }
        for (int m = 1; m < 6; m++) {
            int j = x.jump(0, m);
            for (int v = 0; v < 3; v++) {
                x.guard(j, v, -20, -20);
            }
        }
        for (int m = 5; m > 0; m--) {
            x.jump(m, m - 1);
        }
        x.slope(5, 0, 0, 1);
        x.slope(4, 1, 0, 1);
        x.slope(3, 2, 0, 1);
        for (int m = 0; m < 6; m++) {
            x.room(m, 0, -20, 3);
        }
        return x;
    }

    private void fiveHundredWorks() {
        due.part("promise 12, 500 times WORKED");
        JumpFlows x = growers();
        is("one more would be WORKED", x.safe(), SPENT);
        is("works", x.count(3), 500);
        x.wrong(0);
        is("MET, not SURE", x.safe(), DOUBTFUL);
        x.wrong(NONE);
        for (int m = 0; m < 6; m++) {
            x.room(m, 2, -20, 19);
        }
        // 6 HEAPS first, then 23 steps of six HEAPS each, 40 of five, 39 of four.
        is("just 500", x.safe(), 1);
        is("works", x.count(3), 6 + 6 * 23 + 5 * 40 + 4 * 39);
    }

    private void heaps() {
        due.part("promise 13");
        JumpFlows x = withModes(2);
        x.jump(1, 0);
        x.jump(0, 1);
        x.slope(1, 1, 1, 1);
        x.room(1, 1, 0, 1);
        int[][] want = {{0, NONE, NONE, 0, 1, 0}, {1, 0, 2, 0, 1, 1}, {1, 1, 0, 0, 1, 1}, {0, 2, 1, 0, 1, 0}};
        x.wrong(1);
        is("heaps", x.count(2), 4);
        for (int h = 0; h < 4; h++) {
            for (int what = 0; what < 6; what++) {
                is("heap " + h + " " + what, x.heap(h, what), want[h][what]);
            }
        }
        is("heap 4", x.heap(4, 0), BAD);
        is("heap -1", x.heap(-1, 0), BAD);
        is("what 6", x.heap(0, 6), BAD);
        is("what -1", x.heap(0, -1), BAD);
        is("far", x.heap(MAX, MIN), BAD);
        x.box(1, 1, 1, 1);
        is("WRONG moves, MET with it", x.heap(1, 5), 0);
        is("MET", x.heap(2, 5), 1);
        x.room(1, 1, 1, 1);
        is("none comes into another ROOM", x.count(2), 1);
    }

    private void joinsOfTheOneThatIsWorked() {
        due.part("promise 13, JOINED");
        JumpFlows x = climber();
        x.most(2);
        is("works", x.count(3), 5);
        is("JOINED", x.heap(1, 3), 1);
        is("its ORIGIN stays", x.heap(1, 1), 0);
        is("least", x.side(1, 0, false), 1);
        is("greatest", x.side(1, 0, true), 7);
        is("the first is not", x.heap(0, 3), 0);
        // The latest HEAP of the MODE is joined to, even when the one that is WORKED is another.
        JumpFlows y = withModes(1);
        y.most(2);
        y.jump(0, 0);
        y.set(0, 0, false, 5, 5);
        y.jump(0, 0);
        y.set(1, 0, false, -3, -3);
        is("heaps", y.count(2), 2);
        is("came by", y.heap(1, 2), 1);
        is("JOINED", y.heap(1, 3), 1);
        is("least", y.side(1, 0, false), -3);
        is("greatest", y.side(1, 0, true), 5);
        is("works", y.count(3), 2);
        // Its BOX as it is when the work begins: what is joined in the midst jumps only the next time.
        JumpFlows z = withModes(2);
        z.most(1);
        z.slope(0, 0, 0, 1);
        z.room(0, 0, 0, 1);
        z.jump(0, 1);
        is("works", z.count(3), 3);
        is("JOINED after it was made of 0 alone", z.heap(1, 3), 1);
        is("greatest", z.side(1, 0, true), 1);
    }

    private void sureByOrigins() {
        due.part("promise 13, SURE");
        JumpFlows x = withModes(2);
        x.most(1);
        x.slope(0, 0, 1, 1);
        x.room(0, 0, 0, 2);
        x.jump(0, 1);
        x.guard(0, 0, 0, 0);
        is("heaps", x.count(2), 2);
        is("JOINED", x.heap(0, 3), 1);
        is("SURE", x.heap(0, 4), 0);
        is("itself not JOINED", x.heap(1, 3), 0);
        is("but its ORIGIN is", x.heap(1, 4), 0);
        x.wrong(1);
        is("doubtful", x.safe(), DOUBTFUL);
        x.most(3);
        is("all SURE", x.heap(1, 4) + x.heap(2, 4) + x.heap(3, 4), 3);
        is("not safe", x.safe(), 0);
    }

    private void sides() {
        due.part("promise 14");
        JumpFlows x = climber();
        x.box(0, 2, -4, 9);
        is("least", x.side(0, 2, false), -4);
        is("greatest", x.side(0, 2, true), 9);
        is("least", x.side(2, 0, false), 2);
        is("greatest", x.side(2, 0, true), 4);
        is("heap", x.side(-1, 0, true), -100);
        is("heap", x.side(x.count(2), 0, true), -100);
        is("variable", x.side(0, 3, true), -100);
        is("variable", x.side(0, -1, false), -100);
        x.box(0, 0, -20, 20);
        is("in its ROOM", x.side(0, 0, false), -5);
        is("in its ROOM", x.side(0, 0, true), 7);
    }

    private void comes() {
        due.part("promise 15");
        JumpFlows x = climber();
        x.mode();
        is("comes", x.comes(0, 7, 0, 0), 1);
        is("not", x.comes(0, 8, 0, 0), 0);
        is("not", x.comes(0, -1, 0, 0), 0);
        is("not", x.comes(0, 3, 1, 0), 0);
        is("not", x.comes(0, 3, 0, -1), 0);
        is("another mode", x.comes(1, 3, 0, 0), 0);
        is("mode 2", x.comes(2, 0, 0, 0), BAD);
        is("mode -1", x.comes(-1, 0, 0, 0), BAD);
        is("21", x.comes(0, 21, 0, 0), BAD);
        is("-21", x.comes(0, 0, -21, 0), BAD);
        is("21", x.comes(0, 0, 0, 21), BAD);
        is("edge", x.comes(0, -20, 20, 20), 0);
    }

    private void many() {
        due.part("promise 16");
        JumpFlows x = climber();
        x.mode();
        is("overlaps count once", x.many(0), 8);
        is("none", x.many(1), 0);
        is("mode 2", x.many(2), BAD);
        is("mode -1", x.many(-1), BAD);
        x.room(0, 0, -20, 20);
        for (int v = 0; v < 3; v++) {
            x.box(0, v, -20, 20);
        }
        is("all", x.many(0), 41 * 41 * 41);
        JumpFlows y = withModes(1);
        y.jump(0, 0);
        y.set(0, 0, false, 1, 2);
        y.set(0, 1, false, -1, 1);
        y.set(0, 2, false, -20, 0);
        y.box(0, 2, -2, 20);
        is("two BOXES apart", y.many(0), 23 + 2 * 3 * 21);
        y.set(0, 0, false, 0, 1);
        is("two BOXES that overlap", y.many(0), 23 + 2 * 3 * 21 - 3);
    }

    private void shown() {
        due.part("promise 17, 18");
        JumpFlows x = climber();
        is("safe", x.shown(), STATE);
        x.wrong(0);
        x.box(1, 0, 6, 20);
        is("states", x.shown(), 4);
        int[] want = {0, 2, 4, 6};
        for (int i = 0; i < 4; i++) {
            is("mode", x.shownAt(i, 0), 0);
            is("number " + i, x.shownAt(i, 1), want[i]);
            is("how", x.shownAt(i, 4), i == 0 ? NONE : 0);
        }
        x.box(1, 0, 3, 4);
        is("states", x.shown(), 3);
        is("the least that is WRONG", x.shownAt(2, 1), 3);
        is("the least before", x.shownAt(1, 1), 1);
        x.most(2);
        is("doubtful", x.shown(), STATE);
        x.box(0, 0, 3, 3);
        is("START is WRONG", x.shown(), 1);
        is("number", x.shownAt(0, 1), 3);
    }

    private void shownByJumps() {
        due.part("promise 18, by JUMPS");
        JumpFlows x = withModes(3);
        x.box(0, 0, -2, 6);
        x.box(0, 1, -3, 3);
        x.box(0, 2, 4, 9);
        x.jump(0, 1);
        x.guard(0, 0, 1, 20);
        x.guard(0, 1, -1, 20);
        x.set(0, 0, false, -9, -7);
        x.jump(1, 2);
        x.guard(1, 2, 6, 20);
        x.set(1, 1, false, 11, 12);
        x.wrong(2);
        x.box(1, 0, -8, 20);
        is("states", x.shown(), 3);
        int[][] want = {{0, 1, -1, 6, NONE}, {1, -8, -1, 6, 1}, {2, -8, 11, 6, 2}};
        for (int i = 0; i < 3; i++) {
            for (int what = 0; what < 5; what++) {
                is("shown " + i + " " + what, x.shownAt(i, what), want[i][what]);
            }
        }
    }

    private void shownAtOrder() {
        due.part("promise 18, refused");
        JumpFlows x = climber();
        is("what ahead", x.shownAt(0, 5), -100);
        is("what ahead", x.shownAt(0, -1), -100);
        is("then NOT SAFE", x.shownAt(0, 0), -102);
        is("then NOT SAFE", x.shownAt(-1, 0), -102);
        x.wrong(0);
        is("none such", x.shownAt(1, 0), -100);
        is("none such", x.shownAt(-1, 0), -100);
        is("none such", x.shownAt(MAX, 4), -100);
        is("what", x.shownAt(0, MAX), -100);
        is("the first", x.shownAt(0, 0), 0);
    }

    private void fences() {
        due.part("promise 19, 20");
        JumpFlows x = withModes(2);
        is("fence", x.fence(0, 0, -20, 20), 1);
        is("mode 2", x.fence(2, 0, 0, 0), BAD);
        is("mode -1", x.fence(-1, 0, 0, 0), BAD);
        is("variable 3", x.fence(0, 3, 0, 0), BAD);
        is("variable -1", x.fence(0, -1, 0, 0), BAD);
        is("-21", x.fence(0, 0, -21, 0), BAD);
        is("21", x.fence(0, 0, 0, 21), BAD);
        is("low above high", x.fence(0, 0, 1, 0), BAD);
        is("refused makes none", x.fence(1, 0, 1, 0), BAD);
        is("open", x.open(), 1);
        is("open again", x.open(), 0);
        x.fence(0, 0, 5, 6);
        x.fence(0, 1, 0, 0);
        x.fence(1, 0, 5, 6);
        is("not within", x.holds(), 1);
        is("both", x.open(), 2);
        x.fence(0, 1, 0, 0);
        is("all at first, where there was none", x.holds(), 0);
    }

    private void holdsInOrder() {
        due.part("promise 21");
        JumpFlows x = withModes(3);
        is("START has no FENCE", x.holds(), 1);
        x.start(3);
        is("START without STATES", x.holds(), 0);
        x.start(0);
        for (int m = 0; m < 3; m++) {
            x.slope(m, 0, 1, 1);
            x.fence(m, 0, 0, m);
        }
        x.jump(2, 1);
        x.jump(1, 0);
        is("ticks by number", x.holds(), 10);
        x.room(0, 0, -20, 0);
        is("the next", x.holds(), 11);
        x.slope(1, 0, 0, 0);
        is("the next", x.holds(), 12);
        x.slope(2, 0, -1, -1);
        is("out below", x.holds(), 12);
        x.slope(2, 0, 0, 0);
        is("jumps by number", x.holds(), 20);
        x.room(1, 0, -20, 0);
        is("what is not in the ROOM does not come", x.holds(), 0);
        x.room(0, 0, -20, 20);
        x.slope(0, 0, 0, 0);
        x.room(1, 0, -20, 20);
        x.guard(0, 0, -20, 1);
        is("the next jump", x.holds(), 21);
        x.wrong(0);
        is("WRONG is last", x.holds(), 21);
        x.guard(1, 0, -20, 0);
        is("WRONG", x.holds(), 40);
        x.wrong(2);
        is("WRONG", x.holds(), 42);
        x.box(1, 0, 3, 20);
        is("it HOLDS", x.holds(), 0);
        x.box(0, 1, 0, 1);
        x.fence(0, 1, 0, 0);
        is("START is not within", x.holds(), 1);
    }

    private void holdsOfStates() {
        due.part("promise 21, STATES");
        JumpFlows x = withModes(2);
        x.fence(0, 0, -20, 20);
        x.jump(0, 1);
        is("into a MODE without", x.holds(), 20);
        x.guard(0, 0, 5, 5);
        x.room(0, 0, -4, 4);
        is("none in the GUARD", x.holds(), 0);
        x.set(0, 0, false, 5, 5);
        is("SET makes none", x.holds(), 0);
        x.wrong(0);
        x.box(1, 0, 5, 20);
        is("WRONG out of the ROOM is no STATE", x.holds(), 0);
        x.box(1, 0, 4, 20);
        is("WRONG", x.holds(), 40);
        x.wrong(5);
        is("no such MODE", x.holds(), 0);
        x.fence(1, 0, 10, 11);
        x.room(1, 0, 0, 3);
        x.slope(1, 0, -5, 5);
        is("a FENCE out of the ROOM has no STATES", x.holds(), 0);
        x.box(0, 0, -20, 20);
        x.fence(0, 0, -4, 4);
        is("START's STATES are in the ROOM", x.holds(), 0);
    }

    private void runs() {
        due.part("promise 22");
        JumpFlows x = new JumpFlows();
        is("no mode", x.run(0, 0, 0), STATE);
        x.mode();
        x.box(0, 1, -2, 2);
        is("21", x.run(21, 0, 0), BAD);
        is("-21", x.run(0, -21, 0), BAD);
        is("21", x.run(0, 0, 21), BAD);
        is("not of START", x.run(0, 3, 0), STATE);
        is("no RUN yet", x.now(4), -102);
        is("run", x.run(0, -2, 0), 1);
        is("refused", x.run(1, 0, 0), STATE);
        is("the RUN stays", x.now(2), -2);
        x.slope(0, 0, 1, 1);
        x.tick(1, 0, 0);
        is("a new RUN", x.run(0, 1, 0), 1);
        is("steps", x.now(4), 0);
        x.room(0, 1, 2, 2);
        is("not in the ROOM", x.run(0, 1, 0), STATE);
        is("in both", x.run(0, 2, 0), 1);
        x.mode();
        x.start(1);
        is("the RUN's MODE stays", x.now(0), 0);
        is("in another MODE", x.run(0, 1, 0), 1);
        is("its MODE", x.now(0), 1);
    }

    private void ticks() {
        due.part("promise 23");
        JumpFlows x = withModes(1);
        is("no RUN", x.tick(0, 0, 0), STATE);
        is("BAD ahead", x.tick(6, 0, 0), BAD);
        is("-6", x.tick(0, -6, 0), BAD);
        is("6", x.tick(0, 0, 6), BAD);
        x.slope(0, 0, -1, 5);
        x.slope(0, 2, -5, -4);
        x.run(0, 0, 0);
        is("first", x.tick(5, 0, -5), 1);
        is("second", x.tick(-1, 0, -4), 2);
        is("not its SLOPES", x.tick(0, 1, -4), STATE);
        is("not its SLOPES", x.tick(-2, 0, -4), STATE);
        is("not its SLOPES", x.tick(0, 0, -3), STATE);
        is("numbers", x.now(1), 4);
        is("numbers", x.now(3), -9);
        x.room(0, 0, -20, 5);
        is("out of the ROOM", x.tick(2, 0, -4), STATE);
        is("just in", x.tick(1, 0, -4), 3);
        is("steps", x.now(4), 3);
        x.room(0, 0, 6, 7);
        is("back into the ROOM", x.tick(1, 0, -4), 4);
        x.slope(0, 1, 1, 3);
        x.slope(0, 2, 2, 2);
        is("each by its own", x.tick(1, 3, 2), 5);
        is("number", x.now(1), 7);
        is("number", x.now(2), 3);
        is("number", x.now(3), -17 + 2);
    }

    private void leaps() {
        due.part("promise 24");
        JumpFlows x = withModes(2);
        is("no such", x.leap(0, 0, 0, 0), BAD);
        is("no such", x.leap(-1, 0, 0, 0), BAD);
        x.jump(0, 1);
        is("no RUN", x.leap(0, 0, 0, 0), STATE);
        x.jump(1, 0);
        x.run(0, 0, 0);
        is("another MODE", x.leap(1, 0, 0, 0), STATE);
        x.guard(0, 2, 1, 1);
        is("not in its GUARD", x.leap(0, 0, 0, 1), STATE);
        x.guard(0, 2, 0, 0);
        x.set(0, 1, false, 3, 4);
        is("not as SET", x.leap(0, 0, 2, 0), STATE);
        is("not as SET", x.leap(0, 0, 5, 0), STATE);
        is("not as SET", x.leap(0, 0, MAX, 0), STATE);
        x.room(1, 1, 4, 20);
        is("not in the ROOM", x.leap(0, 0, 3, 0), STATE);
        is("others are not looked at", x.leap(0, MAX, 4, MIN), 1);
        is("mode", x.now(0), 1);
        is("kept", x.now(1), 0);
        is("SET", x.now(2), 4);
        is("kept", x.now(3), 0);
        x.room(0, 1, 0, 3);
        is("kept, not in the ROOM", x.leap(1, 0, 0, 0), STATE);
        x.room(0, 1, 0, 4);
        is("back", x.leap(1, 0, 0, 0), 2);
    }

    private void nows() {
        due.part("promise 25");
        JumpFlows x = withModes(2);
        is("BAD ahead", x.now(8), -100);
        is("BAD ahead", x.now(-1), -100);
        is("no RUN", x.now(7), -102);
        x.run(0, 0, 0);
        is("WRONG", x.now(5), 0);
        x.wrong(0);
        is("WRONG", x.now(5), 1);
        x.box(1, 2, 1, 2);
        is("WRONG", x.now(5), 0);
        is("a TICK can be", x.now(6), 0);
        x.slope(0, 1, 2, 4);
        x.room(0, 1, -20, 1);
        is("none can be", x.now(6), 1);
        x.room(0, 1, -20, 2);
        is("one can be", x.now(6), 0);
        is("jumps", x.now(7), 0);
        for (int j = 0; j < 4; j++) {
            x.jump(j / 3, 1);
        }
        is("jumps", x.now(7), 3);
        x.guard(0, 0, 1, 2);
        is("a GUARD is shut", x.now(7), 2);
        x.set(0, 0, false, 1, 2);
        is("SET does not open it", x.now(7), 2);
        x.room(1, 2, 5, 6);
        is("no ROOM", x.now(7), 0);
        x.set(1, 2, false, -20, 4);
        is("SET, no ROOM", x.now(7), 0);
        x.set(2, 2, false, -20, 5);
        is("with some numbers", x.now(7), 1);
        x.leap(2, 0, 0, 5);
        is("mode", x.now(0), 1);
        is("number", x.now(3), 5);
        is("steps", x.now(4), 1);
        is("jumps", x.now(7), 1);
        is("bad", x.now(MIN), -100);
    }

    private void sheets() {
        due.part("promise 26");
        JumpFlows x = new JumpFlows();
        is("bytes", x.sheet(0, 0, 60), 1);
        is("shorts", x.sheet(1, 1, 0), 1);
        is("ints", x.sheet(3, 2, 1), 1);
        is("sheet 4", x.sheet(4, 0, 1), BAD);
        is("sheet -1", x.sheet(-1, 0, 1), BAD);
        is("lane 3", x.sheet(0, 3, 1), BAD);
        is("lane -1", x.sheet(0, -1, 1), BAD);
        is("61", x.sheet(0, 0, 61), BAD);
        is("far", x.sheet(0, 0, MAX), BAD);
        is("-1", x.sheet(0, 0, -1), -14);
        is("far", x.sheet(0, 0, MIN), -14);
        is("BAD ahead of SIZE", x.sheet(4, 0, -1), BAD);
        is("BAD ahead of SIZE", x.sheet(0, 3, -1), BAD);
        is("refused changes nothing", x.count(4), 60);
        is("no cells", x.lay(1, 0, 0), -12);
        x.mode();
        x.lay(0, 0, 1);
        x.sheet(0, 0, 60);
        is("cells are 0 again", x.draw(0, 0, 0, 0, 0), 1);
        x.sheet(0, 2, 6);
        is("another lane", x.draw(0, 0, 0, 0, 0), -13);
        is("shorter", x.lay(0, 6, 0), -12);
    }

    private void lays() {
        due.part("promise 27");
        JumpFlows x = withModes(1);
        is("nothing", x.lay(0, 0, 1), -11);
        is("nothing ahead of INDEX", x.lay(0, -1, 1), -11);
        is("sheet 4", x.lay(4, 0, 1), BAD);
        is("sheet -1", x.lay(-1, 0, 1), BAD);
        int[] lanesBits = {8, 16, 32};
        for (int lane = 0; lane < 3; lane++) {
            x.sheet(lane, lane, 6);
            is("cell", x.lay(lane, 5, 20), 1);
            is("cell 6", x.lay(lane, 6, 0), -12);
            is("cell -1", x.lay(lane, -1, 0), -12);
            is("far", x.lay(lane, MIN, 0), -12);
            x.lay(lane, 1, 3);
            is("lowest bits", x.lay(lane, 0, (int) ((1L << lanesBits[lane]) - 4)), 1);
            is("read", x.draw(0, 0, lane, lane, 0), 1);
            x.box(0, 0, -20, 20);
            is("-4 to 3", x.many(0), 8);
        }
        x.lay(0, 0, 128);
        is("-128", x.draw(0, 0, 0, 0, 0), -20);
        x.lay(1, 0, 256);
        is("256", x.draw(0, 0, 1, 1, 0), -20);
        x.lay(0, 0, 256);
        is("256 is 0 of a byte", x.draw(0, 0, 0, 0, 0), 1);
        x.lay(2, 0, 65536);
        is("65536", x.draw(0, 0, 2, 2, 0), -20);
        x.lay(1, 0, 65536);
        is("65536 is 0 of a short", x.draw(0, 0, 1, 1, 0), 1);
    }

    private static void layAll(JumpFlows x, int k, int... cells) {
        for (int i = 0; i < cells.length; i++) {
            x.lay(k, i, cells[i]);
        }
    }

    private void draws() {
        due.part("promise 28");
        JumpFlows x = withModes(1);
        is("nothing", x.draw(0, 0, 0, 0, 0), -11);
        is("sort 3", x.draw(3, 0, 0, 0, 0), BAD);
        is("sort -1", x.draw(-1, 0, 0, 0, 0), BAD);
        is("mode 1", x.draw(0, 1, 0, 0, 0), BAD);
        is("mode 1", x.draw(1, 1, 0, 0, 0), BAD);
        is("mode -1", x.draw(1, -1, 0, 0, 0), BAD);
        is("jump 0", x.draw(2, 0, 0, 0, 0), BAD);
        is("sheet 4", x.draw(0, 0, 4, 0, 0), BAD);
        is("sheet -1", x.draw(0, 0, -1, 0, 0), BAD);
        is("lane 3", x.draw(0, 0, 0, 3, 0), BAD);
        is("lane -1", x.draw(0, 0, 0, -1, 0), BAD);
        x.sheet(0, 2, 8);
        layAll(x, 0, -5, 5, -20, 20, 6, 6, 0, 21);
        is("CAST ahead of INDEX", x.draw(0, 0, 0, 1, -1), -13);
        is("INDEX", x.draw(0, 0, 0, 2, -1), -12);
        is("INDEX", x.draw(0, 0, 0, 2, MAX), -12);
        is("INDEX", x.draw(0, 0, 0, 2, MIN), -12);
        is("room", x.draw(0, 0, 0, 2, 0), 1);
        is("slopes", x.draw(1, 0, 0, 2, 0), -22);
        is("a greatest below its least", x.draw(0, 0, 0, 2, 1), -21);
        is("then a bound", x.draw(0, 0, 0, 2, 2), -25);
        is("CELL by CELL", x.draw(0, 0, 0, 2, 3), -21);
        layAll(x, 0, 1, 1, 1, 1, 1, 1, 1, 1);
        is("INDEX at the end", x.draw(0, 0, 0, 2, 3), -12);
        is("the last six", x.draw(0, 0, 0, 2, 2), 1);
        x.lay(0, 7, -21);
        is("a bound ahead of INDEX", x.draw(0, 0, 0, 2, 3), -24);
        x.lay(0, 7, MIN);
        is("a bound", x.draw(0, 0, 0, 2, 2), -25);
        x.jump(0, 0);
        is("guard", x.draw(2, 0, 0, 2, 0), 1);
        is("jump 1", x.draw(2, 1, 0, 2, 0), BAD);
    }

    private void drawsChangeAllOrNone() {
        due.part("promise 28, what changes");
        JumpFlows x = withModes(2);
        x.sheet(2, 0, 6);
        for (int v = 0; v < 3; v++) {
            x.box(0, v, -20, 20);
        }
        layAll(x, 2, -1, 1, 2, 4, 0, -1);
        is("refused", x.draw(0, 0, 2, 0, 0), -25);
        is("none changed", x.many(0), 41 * 41 * 41);
        x.lay(2, 5, 3);
        is("room", x.draw(0, 0, 2, 0, 0), 1);
        is("all changed", x.many(0), 3 * 3 * 4);
        is("the other MODE is not", x.start(1) + x.many(1), 41 * 41 * 41);
        x.start(0);
        x.jump(0, 1);
        x.lay(2, 0, 0);
        is("guard", x.draw(2, 0, 2, 0, 0), 1);
        is("through the GUARD", x.many(1), 2 * 3 * 4);
        layAll(x, 2, 0, 0, 0, 0, 0, 1);
        is("slopes", x.draw(1, 1, 2, 0, 0), 1);
        is("flows then", x.many(1), 2 * 3 * 21);
        x.lay(2, 5, 6);
        is("refused", x.draw(1, 1, 2, 0, 0), -25);
        x.lay(2, 4, 1);
        is("what is laid later is not read", x.many(1), 2 * 3 * 21);
    }

    private void counts() {
        due.part("promise 29");
        JumpFlows x = climber();
        x.jump(0, 0);
        is("modes", x.count(0), 1);
        is("jumps", x.count(1), 1);
        is("heaps", x.count(2), 5);
        is("works", x.count(3), 5);
        is("nothing", x.count(4), NONE);
        x.sheet(1, 0, 5);
        is("nothing of SHEET 0", x.count(4), NONE);
        x.sheet(0, 2, 0);
        is("cells", x.count(4), 0);
        x.sheet(0, 1, 7);
        is("cells", x.count(4), 7);
        is("5", x.count(5), BAD);
        is("-1", x.count(-1), BAD);
        is("far", x.count(MAX), BAD);
        x.most(1);
        is("heaps", x.count(2), 1);
        is("works", x.count(3), 5);
    }
}
