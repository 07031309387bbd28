/**
 * MODES, JUMPS, START, WRONG; what comes by a TICK, by a JUMP.
 * Each sentence of the document that tells where something begins or ends: what is just on this side of it and
 * what is just beyond. The sentence stands above its test.
 */
public final class MachineEdgesTest extends EdgeChecks {
    public static void main(String[] args) {
        MachineEdgesTest test = new MachineEdgesTest();
        test.allOfTheCalls();
        test.emptyBoxes();
        test.modesAtFirst();
        test.jumpsAtFirst();
        test.startAtFirst();
        test.wrongAtFirst();
        test.startStays();
        test.startOfModesToCome();
        test.wrongStays();
        test.wrongOfModesToCome();
        test.keptAgain();
        test.ticksInTheRoom();
        test.ticksBySlopes();
        test.jumpsInTheGuard();
        test.jumpsIntoTheRoom();
        test.jumpsThatSet();
        test.jumpsToItself();
        test.due.end("MachineEdgesTest");
    }

    /** An object is used for at most 512 calls after it has been made. */
    private void allOfTheCalls() {
        due.part("the 512th call");
        JumpFlows x = modes(1);
        x.slope(0, 0, 1, 1);
        x.run(0, 0, 0);
        for (int i = 0; i < 506; i++) {
            x.sheet(i % 4, i % 3, i % 61);
        }
        is("call 510", x.tick(1, 0, 0), 1);
        is("call 511", x.now(1), 1);
        is("call 512", x.count(2), 12);
        JumpFlows y = modes(1);
        y.run(0, 0, 0);
        for (int i = 1; i <= 509; i++) {
            is("step", y.tick(0, 0, 0), i);
        }
        is("call 512", y.now(4), 509);
    }

    /** A BOX is empty, if one least is above its greatest. */
    private void emptyBoxes() {
        for (int v = 0; v < 3; v++) {
            due.part("an empty BOX, VARIABLE " + v);
            JumpFlows x = modes(1);
            x.box(0, v, -4, 4);
            x.room(0, v, 4, 9);
            is("one number", x.count(2), 1);
            side(x, 0, v, 4, 4);
            x.room(0, v, 5, 9);
            is("no number", x.count(2), 0);
            x.room(0, v, -9, -4);
            is("one number", x.many(0), 1);
            side(x, 0, v, -4, -4);
            x.room(0, v, -9, -5);
            is("no number", x.many(0), 0);
        }
    }

    /** MODES are numbered as they come, each with a ROOM (all at first), SLOPES (0, 0 at first). */
    private void modesAtFirst() {
        due.part("a MODE at first");
        JumpFlows x = new JumpFlows();
        for (int m = 0; m < 6; m++) {
            is("its number", x.mode(), m);
            x.start(m);
            for (int v = 0; v < 3; v++) {
                point(x, 0, v, 0);
            }
            is("SLOPES", x.count(2), 1);
            for (int v = 0; v < 3; v++) {
                x.box(0, v, -20, 20);
            }
            is("ROOM", x.many(m), 41 * 41 * 41);
        }
    }

    /** JUMPS are numbered as they come, with a GUARD (all at first), of each VARIABLE kept (at first). */
    private void jumpsAtFirst() {
        due.part("a JUMP at first");
        JumpFlows x = modes(2);
        for (int j = 0; j < 12; j++) {
            is("its number", x.jump(0, 1), j);
        }
        for (int v = 0; v < 3; v++) {
            x.box(0, v, -20, 20);
        }
        is("GUARD", x.many(1), 41 * 41 * 41);
        is("one HEAP of all twelve", x.count(2), 2);
        for (int v = 0; v < 3; v++) {
            x.box(0, v, v + 5, v + 6);
        }
        for (int v = 0; v < 3; v++) {
            side(x, 1, v, v + 5, v + 6);
        }
        is("kept", x.many(1), 8);
    }

    /** START: a MODE (0 at first) and a BOX (all 0 at first). */
    private void startAtFirst() {
        due.part("START at first");
        JumpFlows x = modes(2);
        is("its MODE", x.heap(0, 0), 0);
        for (int v = 0; v < 3; v++) {
            side(x, 0, v, 0, 0);
        }
        is("one STATE", x.many(0), 1);
        is("its number", x.start(1), 0);
    }

    /** WRONG: none at first; its BOX: all at first. */
    private void wrongAtFirst() {
        due.part("WRONG at first");
        JumpFlows x = modes(1);
        is("none is WRONG", x.safe(), 1);
        is("not MET", x.heap(0, 5), 0);
        x.run(0, 0, 0);
        is("the RUN is not", x.now(5), 0);
        x.fence(0, 0, 0, 0);
        is("the FENCE HOLDS", x.holds(), 0);
        is("none", x.wrong(0), NONE);
        for (int v = 0; v < 3; v++) {
            for (int edge = -20; edge <= 20; edge += 40) {
                point(x, 0, v, edge);
                is("all is WRONG", x.safe(), 0);
                is("MET", x.heap(0, 5), 1);
            }
        }
    }

    /** START's MODE; its BOX stays: what it was. */
    private void startStays() {
        due.part("START's BOX stays");
        JumpFlows x = modes(2);
        x.box(0, 1, -3, 7);
        is("what it was", x.start(1), 0);
        side(x, 0, 1, -3, 7);
        is("its MODE", x.heap(0, 0), 1);
        is("what it was", x.start(5), 1);
        is("no such MODE", x.count(2), 0);
        is("what it was", x.start(0), 5);
        side(x, 0, 1, -3, 7);
        is("6", x.start(6), BAD);
        is("what it was", x.start(0), 0);
    }

    /** START's MODE: any 0 to 5. */
    private void startOfModesToCome() {
        due.part("START of a MODE that is to come");
        JumpFlows x = modes(5);
        x.start(5);
        is("none", x.safe(), 1);
        is("no HEAPS", x.count(2), 0);
        is("no RUN", x.run(0, 0, 0), STATE);
        is("no STATES", x.holds(), 0);
        x.mode();
        is("a HEAP", x.count(2), 1);
        is("its MODE", x.heap(0, 0), 5);
        is("not within", x.holds(), 1);
        is("a RUN", x.run(0, 0, 0), 1);
    }

    /** WRONG's MODE (0 to 5; NONE: nothing is); its BOX stays: what it was (NONE). */
    private void wrongStays() {
        due.part("WRONG's BOX stays");
        JumpFlows x = modes(2);
        x.box(1, 0, 1, 20);
        is("what it was", x.wrong(0), NONE);
        is("not in its BOX", x.safe(), 1);
        is("what it was", x.wrong(NONE), 0);
        is("what it was", x.wrong(1), NONE);
        x.start(1);
        is("not in its BOX", x.safe(), 1);
        point(x, 0, 0, 1);
        is("in its BOX", x.safe(), 0);
        is("what it was", x.wrong(5), 1);
        is("nothing is", x.wrong(NONE), 5);
        is("safe", x.safe(), 1);
    }

    /** WRONG's MODE: 0 to 5. */
    private void wrongOfModesToCome() {
        due.part("WRONG of a MODE that is to come");
        JumpFlows x = modes(5);
        for (int m = 0; m < 5; m++) {
            x.jump(m, m + 1);
        }
        is("four JUMPS", x.count(1), 4);
        x.wrong(5);
        is("safe", x.safe(), 1);
        x.mode();
        x.jump(4, 5);
        is("not safe", x.safe(), 0);
        is("six STATES", x.shown(), 6);
    }

    /** A VARIABLE is SET by a JUMP (kept true: it is kept, low, high are not looked at). */
    private void keptAgain() {
        due.part("kept again");
        JumpFlows x = modes(2);
        int j = jumpTo(x, 0, 1, 1, 5);
        side(x, 1, 1, 5, 5);
        x.set(j, 1, true, 21, -21);
        side(x, 1, 1, 0, 0);
        x.set(j, 1, false, -20, -20);
        side(x, 1, 1, -20, -20);
        x.set(j, 1, false, -20, 20);
        side(x, 1, 1, -20, 20);
        for (int v = 0; v < 3; v += 2) {
            side(x, 1, v, 0, 0);
        }
    }

    /** A TICK: all in the ROOM then. */
    private void ticksInTheRoom() {
        for (int v = 0; v < 3; v++) {
            for (int slope = -5; slope <= 5; slope += 10) {
                due.part("a TICK at the edge of the ROOM, VARIABLE " + v + ", SLOPE " + slope);
                JumpFlows x = modes(1);
                x.slope(0, v, slope, slope);
                is("to 20 or -20", x.count(2), 5);
                side(x, 4, v, 4 * slope, 4 * slope);
                x.room(0, v, -Math.abs(slope), Math.abs(slope));
                is("just in", x.count(2), 2);
                x.room(0, v, -Math.abs(slope) + 1, Math.abs(slope) - 1);
                is("just out", x.count(2), 1);
            }
        }
    }

    /** Each VARIABLE becomes more by some whole number of its SLOPES, all in the ROOM then. */
    private void ticksBySlopes() {
        for (int v = 0; v < 3; v++) {
            due.part("a TICK by SLOPES, VARIABLE " + v);
            JumpFlows x = modes(1);
            x.slope(0, v, -2, 3);
            is("all", x.many(0), 41);
            x.room(0, v, -2, 3);
            is("two HEAPS", x.count(2), 2);
            side(x, 1, v, -2, 3);
            x.room(0, v, -1, 2);
            side(x, 1, v, -1, 2);
            x.slope(0, v, 2, 3);
            side(x, 1, v, 2, 2);
            is("no third", x.count(2), 2);
            x.slope(0, v, 3, 5);
            is("out of the ROOM", x.count(2), 1);
            x.slope(0, v, -3, -1);
            side(x, 1, v, -1, -1);
            x.slope(0, v, -5, -2);
            is("out of the ROOM", x.count(2), 1);
        }
    }

    /** A JUMP from a STATE in its GUARD. */
    private void jumpsInTheGuard() {
        for (int v = 0; v < 3; v++) {
            due.part("a JUMP at the edge of its GUARD, VARIABLE " + v);
            JumpFlows x = modes(2);
            x.jump(0, 1);
            x.box(0, v, -3, 4);
            x.guard(0, v, 4, 20);
            is("just in", x.count(2), 2);
            side(x, 1, v, 4, 4);
            x.guard(0, v, 5, 20);
            is("just out", x.count(2), 1);
            x.guard(0, v, -20, -3);
            side(x, 1, v, -3, -3);
            x.guard(0, v, -20, -4);
            is("just out", x.count(2), 1);
            // What is SET is asked of the GUARD as well, as it was ahead of the JUMP.
            x.set(0, v, false, -5, -5);
            is("SET, out of the GUARD", x.count(2), 1);
            x.guard(0, v, -20, -3);
            side(x, 1, v, -5, -5);
            x.guard(0, v, -3, 4);
            side(x, 1, v, -5, -5);
        }
    }

    /** To the other MODE, all in its ROOM then. */
    private void jumpsIntoTheRoom() {
        for (int v = 0; v < 3; v++) {
            due.part("a JUMP at the edge of the other ROOM, VARIABLE " + v);
            JumpFlows x = modes(2);
            x.jump(0, 1);
            x.box(0, v, -3, 4);
            x.room(1, v, 4, 20);
            side(x, 1, v, 4, 4);
            x.room(1, v, 5, 20);
            is("just out", x.many(1), 0);
            x.room(1, v, -20, -3);
            side(x, 1, v, -3, -3);
            x.room(1, v, -20, -4);
            is("just out", x.many(1), 0);
            x.set(0, v, false, -4, 8);
            side(x, 1, v, -4, -4);
            x.set(0, v, false, -3, 8);
            is("SET just out", x.many(1), 0);
            x.room(1, v, 8, 9);
            side(x, 1, v, 8, 8);
            // The ROOM that it leaves is not asked of what is SET.
            x.room(0, v, -3, 4);
            side(x, 1, v, 8, 8);
        }
    }

    /** VARIABLES that are SET become some numbers as told, the others stay. */
    private void jumpsThatSet() {
        for (int v = 0; v < 3; v++) {
            due.part("a JUMP that sets VARIABLE " + v);
            JumpFlows x = modes(2);
            x.jump(0, 1);
            for (int other = 0; other < 3; other++) {
                x.box(0, other, -other - 1, other + 2);
            }
            x.set(0, v, false, 9, 11);
            for (int other = 0; other < 3; other++) {
                side(x, 1, other, other == v ? 9 : -other - 1, other == v ? 11 : other + 2);
            }
        }
    }

    /** Each from a MODE to a MODE (also itself). */
    private void jumpsToItself() {
        due.part("a JUMP to its own MODE");
        JumpFlows x = modes(1);
        jumpTo(x, 0, 0, 0, 3);
        is("two HEAPS", x.count(2), 2);
        is("its MODE", x.heap(1, 0), 0);
        is("its ORIGIN", x.heap(1, 1), 0);
        is("how it came", x.heap(1, 2), 1);
        x.run(0, 0, 0);
        is("by hand", x.leap(0, 3, 0, 0), 1);
        is("and again", x.leap(0, 3, 0, 0), 2);
    }
}
