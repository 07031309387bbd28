/**
 * HEAPS: which come, which are JOINED, when it is SPENT.
 * Each sentence of the document that tells where something begins or ends: what is just on this side of it and
 * what is just beyond. The sentence stands above its test.
 */
public final class HeapsEdgesTest extends EdgeChecks {
    public static void main(String[] args) {
        HeapsEdgesTest test = new HeapsEdgesTest();
        test.firstHeap();
        test.leastNumberFirst();
        test.tickThenJumps();
        test.boxAsItIsWhenThatBegins();
        test.notInTheBoxOfAHeap();
        test.notInOneButInTwo();
        test.mostOfAMode();
        test.mostTwelve();
        test.latestOfTheMode();
        test.leastBoxThatHasBoth();
        test.joinedIsNotWorked();
        test.joinedToItself();
        test.originStays();
        test.sixtyFourHeaps();
        test.endsAtTheSixtyFifth();
        test.endsWithinAWorking();
        test.fiveHundredWorkings();
        test.noHeaps();
        test.due.end("HeapsEdgesTest");
    }

    /** HEAPS: a MODE and a BOX each (in its ROOM). The first HEAP is that of START. */
    private void firstHeap() {
        due.part("the first HEAP");
        JumpFlows x = modes(3);
        x.start(2);
        for (int v = 0; v < 3; v++) {
            x.box(0, v, -20, 20);
            x.room(2, v, v - 10, v + 10);
        }
        is("its MODE", x.heap(0, 0), 2);
        is("its ORIGIN", x.heap(0, 1), NONE);
        is("how it came", x.heap(0, 2), NONE);
        is("not JOINED", x.heap(0, 3), 0);
        is("SURE", x.heap(0, 4), 1);
        for (int v = 0; v < 3; v++) {
            side(x, 0, v, v - 10, v + 10);
        }
    }

    /** They are WORKED one by one, always the least number that is not WORKED. */
    private void leastNumberFirst() {
        due.part("the least number that is not WORKED");
        JumpFlows x = modes(5);
        x.most(1);
        x.jump(0, 1);
        jumpTo(x, 1, 0, 0, 5);
        x.jump(1, 2);
        int late = x.jump(0, 3);
        x.guard(late, 0, 5, 5);
        x.jump(2, 4);
        // HEAP 1 makes HEAP 2 and joins to HEAP 0, which is WORKED again ahead of HEAP 2.
        int[] modes = {0, 1, 2, 3, 4};
        for (int h = 0; h < 5; h++) {
            is("MODE of HEAP " + h, x.heap(h, 0), modes[h]);
        }
        is("ORIGIN of HEAP 3", x.heap(3, 1), 0);
        is("ORIGIN of HEAP 4", x.heap(4, 1), 2);
        // 0, 1, 0 again (it joins to HEAP 1), 1 again (to HEAP 2), 2, 3, 4.
        is("workings", x.count(3), 7);
    }

    /** By a TICK, then by each JUMP from its MODE, in order. */
    private void tickThenJumps() {
        due.part("a TICK, then the JUMPS in order");
        JumpFlows x = modes(4);
        x.jump(0, 3);
        x.jump(1, 2);
        x.jump(0, 1);
        x.slope(0, 0, 1, 1);
        x.room(0, 0, 0, 1);
        int[][] want = {{0, NONE, NONE}, {0, 0, 0}, {3, 0, 1}, {1, 0, 3}, {3, 1, 1}, {1, 1, 3}, {2, 3, 2}, {2, 5, 2}};
        is("HEAPS", x.count(2), want.length);
        for (int h = 0; h < want.length; h++) {
            for (int what = 0; what < 3; what++) {
                is("HEAP " + h + " " + what, x.heap(h, what), want[h][what]);
            }
        }
    }

    /** Its BOX (as it is when that begins) by a TICK, then by each JUMP. */
    private void boxAsItIsWhenThatBegins() {
        due.part("its BOX as it is when that begins");
        JumpFlows x = modes(2);
        x.most(1);
        x.slope(0, 0, 1, 1);
        x.room(0, 0, 0, 1);
        x.jump(0, 1);
        // The first working joins 1 to HEAP 0, but its JUMP still takes 0 alone; the second makes a join of HEAP 1.
        is("workings", x.count(3), 3);
        is("HEAP 1 is JOINED", x.heap(1, 3), 1);
        side(x, 1, 0, 0, 1);
        JumpFlows y = modes(2);
        y.most(1);
        y.slope(0, 0, 1, 1);
        y.room(0, 0, 0, 1);
        int j = y.jump(0, 1);
        y.guard(j, 0, 1, 1);
        is("only the second jumps", y.heap(1, 3), 0);
        side(y, 1, 0, 1, 1);
    }

    /** What comes of that, if it is not empty, nor in the BOX of a HEAP of its MODE: becomes a new HEAP. */
    private void notInTheBoxOfAHeap() {
        for (int v = 0; v < 3; v++) {
            due.part("in the BOX of a HEAP, VARIABLE " + v);
            JumpFlows x = modes(2);
            int j = x.jump(0, 0);
            x.box(0, v, -2, 3);
            x.set(j, v, false, -2, 3);
            is("equal", x.count(2), 1);
            x.set(j, v, false, -3, 3);
            is("one more below", x.count(2), 2);
            x.set(j, v, false, -2, 4);
            is("one more above", x.count(2), 2);
            x.set(j, v, false, -2, -2);
            is("its least", x.count(2), 1);
            x.set(j, v, false, 3, 3);
            is("its greatest", x.count(2), 1);
            x.set(j, v, false, 4, 4);
            is("beyond", x.count(2), 2);
            x.set(j, v, false, 0, 1);
            x.jump(0, 1);
            is("a HEAP of another MODE", x.count(2), 2);
            x.jump(1, 0);
            is("back in the first", x.count(2), 2);
        }
        due.part("in the BOX of a HEAP that is not the latest");
        JumpFlows y = modes(1);
        jumpTo(y, 0, 0, 0, 5);
        jumpTo(y, 0, 0, 0, 9);
        jumpTo(y, 0, 0, 0, 5);
        is("HEAPS", y.count(2), 3);
    }

    /** Nor in the BOX of a HEAP: of one HEAP, not of two together. */
    private void notInOneButInTwo() {
        due.part("in two HEAPS together");
        JumpFlows x = modes(2);
        x.set(x.jump(0, 1), 0, false, 0, 3);
        x.set(x.jump(0, 1), 0, false, 4, 7);
        int j = x.jump(0, 1);
        x.set(j, 0, false, 3, 4);
        is("a new HEAP", x.count(2), 4);
        is("no new STATE", x.many(1), 8);
        x.set(j, 0, false, 2, 3);
        is("in one", x.count(2), 3);
    }

    /** But if its MODE has MOST HEAPS, it is joined. */
    private void mostOfAMode() {
        for (int n = 1; n <= 12; n++) {
            due.part("MOST " + n);
            JumpFlows x = ladder(n);
            x.most(n);
            is("MOST HEAPS", x.count(2), n);
            is("none is JOINED", x.heap(n - 1, 3), 0);
            is("workings", x.count(3), n);
            x.room(0, 0, 0, n);
            is("no more than MOST", x.count(2), n);
            is("the latest is JOINED", x.heap(n - 1, 3), 1);
            side(x, n - 1, 0, n - 1, n);
            is("the one ahead is not", n == 1 ? 0 : x.heap(n - 2, 3), 0);
            // The latest was WORKED, joined to in that, WORKED again.
            is("workings", x.count(3), n + 1);
        }
    }

    /** MOST (1 to 12; 12 at first): of each MODE by itself. */
    private void mostTwelve() {
        due.part("MOST at first, of each MODE");
        JumpFlows x = ladder(12);
        is("twelve", x.count(2), 12);
        x.mode();
        x.jump(0, 1);
        is("twelve and twelve", x.count(2), 24);
        for (int h = 0; h < 24; h++) {
            is("none is JOINED", x.heap(h, 3), 0);
        }
        x.room(0, 0, 0, 12);
        is("no more", x.count(2), 24);
        int joined = 0;
        for (int h = 0; h < 24; h++) {
            joined += x.heap(h, 3);
        }
        is("one of each", joined, 2);
        is("what it was", x.most(11), 12);
        is("eleven and eleven", x.count(2), 22);
    }

    /** It is joined to the latest one of these. */
    private void latestOfTheMode() {
        due.part("the latest of its MODE");
        JumpFlows x = modes(2);
        x.most(2);
        jumpTo(x, 0, 0, 0, 9);
        x.jump(0, 1);
        // Just beside HEAP 0, far from the latest; HEAP 2 is later, but of another MODE.
        jumpTo(x, 0, 0, 0, -1);
        is("HEAP 0", x.heap(0, 3), 0);
        is("HEAP 1", x.heap(1, 3), 1);
        is("of MODE 0", x.heap(1, 0), 0);
        side(x, 1, 0, -1, 9);
        is("HEAP 2 is of MODE 1", x.heap(2, 0), 1);
    }

    /** The least BOX that has both becomes that HEAP's. */
    private void leastBoxThatHasBoth() {
        due.part("the least BOX that has both");
        JumpFlows x = modes(2);
        x.most(1);
        int[][] first = {{1, 2}, {-4, 4}, {-9, -7}};
        int[][] second = {{-3, -2}, {-1, 1}, {-8, 6}};
        int[][] both = {{-3, 2}, {-4, 4}, {-9, 6}};
        int j = x.jump(0, 1);
        int k = x.jump(0, 1);
        for (int v = 0; v < 3; v++) {
            x.set(j, v, false, first[v][0], first[v][1]);
            x.set(k, v, false, second[v][0], second[v][1]);
        }
        is("HEAPS", x.count(2), 2);
        for (int v = 0; v < 3; v++) {
            side(x, 1, v, both[v][0], both[v][1]);
        }
        is("JOINED", x.heap(1, 3), 1);
    }

    /** It is JOINED then, and not WORKED. */
    private void joinedIsNotWorked() {
        due.part("what is JOINED is WORKED again");
        JumpFlows x = modes(3);
        x.most(1);
        x.jump(0, 1);
        x.jump(1, 2);
        int j = jumpTo(x, 2, 1, 0, 4);
        // 0, 1, 2 joins to HEAP 1: 1 joins to HEAP 2: 2 brings nothing new.
        is("workings", x.count(3), 5);
        side(x, 2, 0, 0, 4);
        x.set(j, 0, true, 0, 0);
        is("nothing is JOINED", x.count(3), 3);
        is("nothing is JOINED", x.heap(1, 3) + x.heap(2, 3), 0);
    }

    /** The one that is being WORKED is so at its end, but if it was itself joined to in that. */
    private void joinedToItself() {
        due.part("joined to in its own working");
        JumpFlows x = modes(2);
        x.most(1);
        jumpTo(x, 0, 0, 0, 1);
        is("WORKED twice", x.count(3), 2);
        is("JOINED", x.heap(0, 3), 1);
        side(x, 0, 0, 0, 1);
        // Joined to, and then another JUMP that brings nothing to it: it is not WORKED all the same.
        x.jump(0, 1);
        is("0, 0 again, 1", x.count(3), 3);
        is("HEAP 1 is JOINED", x.heap(1, 3), 1);
        JumpFlows y = modes(1);
        y.most(1);
        y.jump(0, 0);
        is("in its own BOX: WORKED once", y.count(3), 1);
        is("not JOINED", y.heap(0, 3), 0);
        JumpFlows z = modes(2);
        z.most(1);
        z.jump(0, 1);
        jumpTo(z, 0, 1, 0, 1);
        is("another is joined to: it is WORKED once", z.count(3), 2);
    }

    /** Its ORIGIN: that one, by TICK, JUMP; a join leaves it. */
    private void originStays() {
        due.part("the ORIGIN of what is JOINED");
        JumpFlows x = modes(3);
        x.most(1);
        x.jump(0, 1);
        x.jump(0, 2);
        jumpTo(x, 2, 1, 0, 7);
        is("JOINED", x.heap(1, 3), 1);
        is("ORIGIN", x.heap(1, 1), 0);
        is("by JUMP 0", x.heap(1, 2), 1);
        is("HEAP 2 is not JOINED", x.heap(2, 3), 0);
        is("its ORIGIN", x.heap(2, 1), 0);
        is("by JUMP 1", x.heap(2, 2), 2);
    }

    /** SPENT: when a 65th HEAP would come. */
    private void sixtyFourHeaps() {
        due.part("64 HEAPS");
        JumpFlows x = heaped(4);
        is("64", x.safe(), 1);
        is("HEAPS", x.count(2), 64);
        is("workings", x.count(3), 64);
        is("the last", x.heap(63, 0), 5);
        is("the last", x.side(63, 0, true), 3);
        is("none beyond", x.heap(64, 0), BAD);
        is("none beyond", x.side(64, 0, true), -100);
        x.room(5, 0, 0, 2);
        is("63", x.count(2), 63);
        is("63", x.safe(), 1);
        x.room(5, 0, 0, 4);
        is("a 65th would come", x.safe(), SPENT);
        is("HEAPS", x.count(2), 64);
        is("the last", x.heap(63, 4), 1);
        is("none beyond", x.heap(64, 0), BAD);
    }

    /** When a 65th HEAP would come .. it ends there: no HEAP is WORKED after. */
    private void endsAtTheSixtyFifth() {
        due.part("it ends at the 65th HEAP");
        JumpFlows x = heaped(12);
        is("spent", x.safe(), SPENT);
        is("STATES of the last MODE", x.many(5), 4);
        is("comes", x.comes(5, 3, 0, 0), 1);
        is("does not come any more", x.comes(5, 4, 0, 0), 0);
        x.most(10);
        is("60 are enough", x.count(2), 60);
        is("none is MET", x.safe(), 1);
        x.most(11);
        is("66 are not", x.safe(), SPENT);
        is("HEAPS", x.count(2), 64);
    }

    /** It ends there: within a working what is still to come of it comes no more. */
    private void endsWithinAWorking() {
        due.part("it ends within a working");
        JumpFlows x = heaped(5);
        int j = jumpTo(x, 5, 0, 0, -5);
        x.guard(j, 0, 3, 3);
        x.room(0, 0, -5, 11);
        int latest = -1;
        for (int h = 0; h < 64; h++) {
            latest = x.heap(h, 0) == 0 ? h : latest;
        }
        is("spent", x.safe(), SPENT);
        is("the JUMP after the TICK is not taken", x.heap(latest, 3), 0);
        is("it would have come", x.comes(0, -5, 0, 0), 0);
        x.room(5, 0, 0, 3);
        is("without the 65th it is taken", x.heap(latest, 3), 1);
        is("it comes", x.comes(0, -5, 0, 0), 1);
    }

    /** Or a HEAP would be WORKED though 500 were already. */
    private void fiveHundredWorkings() {
        due.part("500 workings");
        JumpFlows x = growing(0, 0, 0);
        is("none grows", x.count(3), 6);
        x = growing(2, 3, 4);
        is("they grow", x.count(3), 6 + 8 + 15 + 24);
        x = growing(37, 39, 25);
        is("499", x.safe(), 1);
        is("499", x.count(3), 499);
        x = growing(39, 40, 23);
        is("500", x.safe(), 1);
        is("500", x.count(3), 500);
        x = growing(39, 39, 24);
        is("a 501st", x.safe(), SPENT);
        is("was none", x.count(3), 500);
        x = growing(40, 40, 40);
        is("many more", x.safe(), SPENT);
        is("were none", x.count(3), 500);
        // 6 + 160 + 200 workings, then 22 times six, then HEAP 5, which grew then for the 24th time, and 4.
        side(x, 5, 0, -20, 4);
        side(x, 4, 0, -20, 3);
        side(x, 3, 0, -20, 3);
        side(x, 2, 0, -20, 2);
        x.most(2);
        x.most(1);
        is("the same again", x.count(3), 500);
    }

    /** START without STATES, or no such MODE: no HEAPS, 1. */
    private void noHeaps() {
        due.part("no HEAPS");
        JumpFlows x = modes(2);
        x.wrong(1);
        x.start(2);
        is("no such MODE", x.safe(), 1);
        is("no HEAPS", x.count(2), 0);
        is("no workings", x.count(3), 0);
        is("no STATES", x.many(0) + x.many(1), 0);
        is("none comes", x.comes(0, 0, 0, 0), 0);
        is("nothing SHOWN", x.shown(), STATE);
        x.start(1);
        is("START is WRONG", x.safe(), 0);
        x.room(1, 2, 1, 20);
        is("START without STATES", x.safe(), 1);
        is("no HEAPS", x.count(2), 0);
        is("no such HEAP", x.heap(0, 0), BAD);
        x.box(0, 2, 0, 1);
        is("one STATE", x.safe(), 0);
    }
}
