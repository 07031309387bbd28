/**
 * FENCES, runs by hand.
 * Each sentence of the document that tells where something begins or ends: what is just on this side of it and
 * what is just beyond. The sentence stands above its test.
 */
public final class FencesEdgesTest extends EdgeChecks {
    public static void main(String[] args) {
        FencesEdgesTest test = new FencesEdgesTest();
        test.startWithin();
        test.tickLeadsOut();
        test.jumpLeadsOut();
        test.noneMayCome();
        test.onlyStatesOfTheFence();
        test.wrongInIt();
        test.highestNumbers();
        test.allAtFirstAfterOpen();
        test.runOfStart();
        test.runInTheRoom();
        test.runGoesOn();
        test.tickByHand();
        test.leapByHand();
        test.noTickCanBe();
        test.howManyJumpsCanBe();
        test.wrongOfTheRun();
        test.stepsFromANewRun();
        test.due.end("FencesEdgesTest");
    }

    /** It HOLDS, if START's STATES are in that of its MODE. */
    private void startWithin() {
        for (int v = 0; v < 3; v++) {
            due.part("START within its FENCE, VARIABLE " + v);
            JumpFlows x = modes(2);
            x.box(0, v, -2, 3);
            is("no FENCE", x.holds(), 1);
            x.fence(1, v, -20, 20);
            is("a FENCE of another MODE", x.holds(), 1);
            x.fence(0, v, -2, 3);
            is("the same", x.holds(), 0);
            x.fence(0, v, -1, 3);
            is("one out below", x.holds(), 1);
            x.fence(0, v, -2, 2);
            is("one out above", x.holds(), 1);
            x.room(0, v, -20, 2);
            is("that is not in the ROOM", x.holds(), 0);
            x.room(0, v, 4, 5);
            is("START without STATES", x.holds(), 0);
        }
    }

    /** All that comes of a FENCE's BOX by a TICK is in that of its MODE: 10 and m. */
    private void tickLeadsOut() {
        for (int v = 0; v < 3; v++) {
            due.part("a TICK out of a FENCE, VARIABLE " + v);
            JumpFlows x = modes(2);
            for (int m = 0; m < 2; m++) {
                x.fence(m, v, -2, 3);
            }
            is("level", x.holds(), 0);
            x.slope(1, v, 0, 1);
            is("up", x.holds(), 11);
            x.room(1, v, -20, 3);
            is("out of the ROOM", x.holds(), 0);
            x.slope(1, v, -1, 0);
            is("down", x.holds(), 11);
            x.room(1, v, -2, 3);
            is("out of the ROOM", x.holds(), 0);
            x.slope(1, v, -5, 5);
            is("out of the ROOM", x.holds(), 0);
            x.slope(0, v, 1, 1);
            is("the first MODE", x.holds(), 10);
            x.fence(0, v, -2, 20);
            is("up to the end", x.holds(), 0);
            x.slope(0, v, -1, -1);
            is("down from the least", x.holds(), 10);
            x.fence(0, v, -20, 20);
            is("down to the end", x.holds(), 0);
        }
    }

    /** By a JUMP: 20 and j. */
    private void jumpLeadsOut() {
        for (int v = 0; v < 3; v++) {
            due.part("a JUMP out of a FENCE, VARIABLE " + v);
            JumpFlows x = modes(2);
            int j = x.jump(0, 1);
            x.fence(0, v, -2, 3);
            x.fence(1, v, -2, 3);
            is("within", x.holds(), 0);
            x.fence(1, v, -1, 3);
            is("one out below", x.holds(), 20);
            x.guard(j, v, -1, 20);
            is("out of the GUARD", x.holds(), 0);
            x.fence(1, v, -1, 2);
            is("one out above", x.holds(), 20);
            x.guard(j, v, -1, 2);
            is("out of the GUARD", x.holds(), 0);
            x.set(j, v, false, -1, 2);
            is("SET within", x.holds(), 0);
            x.set(j, v, false, -1, 3);
            is("SET one out above", x.holds(), 20);
            x.room(1, v, -20, 2);
            is("out of the ROOM", x.holds(), 0);
            x.set(j, v, false, -2, 2);
            is("SET one out below", x.holds(), 20);
            x.room(1, v, -1, 20);
            is("out of the ROOM", x.holds(), 0);
        }
    }

    /** A MODE without: none may come. */
    private void noneMayCome() {
        for (int v = 0; v < 3; v++) {
            due.part("a MODE without a FENCE, VARIABLE " + v);
            JumpFlows x = modes(3);
            int j = x.jump(0, 1);
            x.jump(1, 2);
            x.fence(0, v, -2, 3);
            is("some come", x.holds(), 20);
            x.guard(j, v, 3, 20);
            is("one comes", x.holds(), 20);
            x.guard(j, v, 4, 20);
            is("none comes", x.holds(), 0);
            x.set(j, v, false, 0, 0);
            is("none is in the GUARD", x.holds(), 0);
            x.guard(j, v, -20, -2);
            is("one comes", x.holds(), 20);
            x.room(1, v, 1, 20);
            is("none is in the ROOM", x.holds(), 0);
            x.room(1, v, 0, 20);
            is("one is in the ROOM", x.holds(), 20);
            x.fence(1, v, 0, 0);
            is("out of that", x.holds(), 21);
        }
    }

    /** All that comes of a FENCE's BOX (what of it is in the ROOM). */
    private void onlyStatesOfTheFence() {
        for (int v = 0; v < 3; v++) {
            due.part("what of a FENCE is in the ROOM, VARIABLE " + v);
            JumpFlows x = modes(2);
            x.fence(0, v, 0, 9);
            x.room(0, v, -20, 4);
            int j = x.jump(0, 1);
            x.guard(j, v, 5, 20);
            is("none of it is in the GUARD", x.holds(), 0);
            x.guard(j, v, 4, 20);
            is("one is", x.holds(), 20);
            x.start(1);
            x.fence(1, v, 0, 4);
            is("all that comes is within", x.holds(), 0);
            x.room(0, v, -20, 5);
            is("more comes", x.holds(), 20);
            x.room(0, v, -20, -1);
            x.wrong(0);
            is("none of it is in the ROOM", x.holds(), 0);
        }
    }

    /** None has a STATE of WRONG: 40 and m. */
    private void wrongInIt() {
        for (int v = 0; v < 3; v++) {
            due.part("WRONG in a FENCE, VARIABLE " + v);
            JumpFlows x = modes(2);
            x.fence(0, v, -2, 3);
            x.wrong(0);
            is("all", x.holds(), 40);
            x.box(1, v, 3, 20);
            is("at its greatest", x.holds(), 40);
            x.box(1, v, 4, 20);
            is("just above", x.holds(), 0);
            x.box(1, v, -20, -2);
            is("at its least", x.holds(), 40);
            x.room(0, v, -1, 20);
            is("that is not in the ROOM", x.holds(), 0);
            x.box(1, v, -20, -1);
            is("that is", x.holds(), 40);
            x.wrong(1);
            is("of a MODE without a FENCE", x.holds(), 0);
            x.fence(1, v, -1, 0);
            is("of a MODE with", x.holds(), 41);
            x.wrong(5);
            is("of no such MODE", x.holds(), 0);
            x.wrong(NONE);
            is("of none", x.holds(), 0);
        }
    }

    /** The first of all in that order (by numbers). */
    private void highestNumbers() {
        due.part("the highest numbers");
        JumpFlows x = modes(6);
        x.start(5);
        x.fence(5, 0, 0, 0);
        x.wrong(5);
        int last = -1;
        for (int j = 0; j < 12; j++) {
            last = x.jump(5, 5);
        }
        is("WRONG of MODE 5", x.holds(), 45);
        x.set(last, 0, false, 1, 1);
        is("JUMP 11", x.holds(), 31);
        x.set(0, 0, false, 1, 1);
        is("JUMP 0", x.holds(), 20);
        x.slope(5, 0, 1, 1);
        is("a TICK of MODE 5", x.holds(), 15);
        x.fence(4, 1, 0, 0);
        x.slope(4, 1, -1, -1);
        is("a TICK of MODE 4", x.holds(), 14);
        x.start(3);
        is("START", x.holds(), 1);
    }

    /** A VARIABLE's least, greatest in a MODE's FENCE (all at first, where there was none). */
    private void allAtFirstAfterOpen() {
        due.part("all at first, where there was none");
        JumpFlows x = modes(6);
        for (int v = 0; v < 3; v++) {
            x.box(0, v, -20, 20);
        }
        x.fence(0, 0, -20, 20);
        is("the others are all", x.holds(), 0);
        x.fence(0, 1, -19, 20);
        is("one is not", x.holds(), 1);
        x.fence(0, 2, -20, 19);
        is("two are not", x.holds(), 1);
        x.fence(0, 1, -20, 20);
        is("the other stays", x.holds(), 1);
        is("open", x.open(), 1);
        is("none", x.open(), 0);
        x.fence(0, 0, -20, 20);
        is("all again", x.holds(), 0);
        for (int m = 0; m < 6; m++) {
            x.fence(m, 0, 0, 0);
            x.fence(m, 1, 0, 0);
        }
        is("six", x.open(), 6);
        is("none", x.open(), 0);
        is("none", x.holds(), 1);
    }

    /** A RUN begins in a STATE of START's MODE in its BOX. STATE: it is no STATE of START. */
    private void runOfStart() {
        for (int v = 0; v < 3; v++) {
            due.part("a RUN at the edge of START, VARIABLE " + v);
            JumpFlows x = modes(1);
            x.box(0, v, -2, 3);
            for (int number = -20; number <= 20; number++) {
                int[] at = {v == 0 ? number : 0, v == 1 ? number : 0, v == 2 ? number : 0};
                is("run " + number, x.run(at[0], at[1], at[2]), number >= -2 && number <= 3 ? 1 : STATE);
                is("where it is", x.now(1 + v), number < -2 ? -102 : Math.min(number, 3));
            }
        }
    }

    /** A STATE: a MODE with numbers in its ROOM. */
    private void runInTheRoom() {
        for (int v = 0; v < 3; v++) {
            due.part("a RUN at the edge of the ROOM, VARIABLE " + v);
            JumpFlows x = modes(1);
            x.box(0, v, -20, 20);
            x.room(0, v, -1, 1);
            for (int number = -3; number <= 3; number++) {
                int[] at = {v == 0 ? number : 0, v == 1 ? number : 0, v == 2 ? number : 0};
                is("run " + number, x.run(at[0], at[1], at[2]), Math.abs(number) <= 1 ? 1 : STATE);
            }
        }
    }

    /** What is told anew does not end a RUN; the numbers that come are those that are asked. */
    private void runGoesOn() {
        due.part("a RUN goes on");
        JumpFlows x = modes(2);
        x.jump(0, 1);
        x.run(0, 0, 0);
        x.start(1);
        point(x, 0, 0, 7);
        is("its MODE", x.now(0), 0);
        is("its number", x.now(1), 0);
        x.room(0, 0, 1, 2);
        is("its number", x.now(1), 0);
        is("not into the ROOM", x.tick(0, 0, 0), STATE);
        is("no TICK can be", x.now(6), 1);
        x.slope(0, 0, 0, 1);
        is("a TICK can be", x.now(6), 0);
        is("into the ROOM", x.tick(1, 0, 0), 1);
        is("by a JUMP", x.leap(0, 0, 0, 0), 2);
        x.mode();
        is("its MODE", x.now(0), 1);
        is("refused", x.run(6, 0, 0), STATE);
        is("its steps", x.now(4), 2);
    }

    /** A TICK by these SLOPES: BAD: not -5 to 5 each; STATE: not of its MODE, or not in the ROOM then. */
    private void tickByHand() {
        for (int v = 0; v < 3; v++) {
            due.part("a TICK by hand, VARIABLE " + v);
            JumpFlows x = modes(1);
            x.slope(0, v, -2, 3);
            int steps = 0;
            for (int by = -6; by <= 6; by++) {
                x.run(0, 0, 0);
                int want = Math.abs(by) > 5 ? BAD : by < -2 || by > 3 ? STATE : 1;
                is("by " + by, x.tick(v == 0 ? by : 0, v == 1 ? by : 0, v == 2 ? by : 0), want);
                is("where it is", x.now(1 + v), want == 1 ? by : 0);
                is("steps", x.now(4), want == 1 ? 1 : 0);
                steps += want == 1 ? 1 : 0;
            }
            is("six of them", steps, 6);
            x.run(0, 0, 0);
            x.room(0, v, -1, 2);
            is("out above", x.tick(v == 0 ? 3 : 0, v == 1 ? 3 : 0, v == 2 ? 3 : 0), STATE);
            is("out below", x.tick(v == 0 ? -2 : 0, v == 1 ? -2 : 0, v == 2 ? -2 : 0), STATE);
            is("just in", x.tick(v == 0 ? 2 : 0, v == 1 ? 2 : 0, v == 2 ? 2 : 0), 1);
            is("out from there", x.tick(v == 0 ? 1 : 0, v == 1 ? 1 : 0, v == 2 ? 1 : 0), STATE);
            is("down", x.tick(v == 0 ? -2 : 0, v == 1 ? -2 : 0, v == 2 ? -2 : 0), 2);
            is("where it is", x.now(1 + v), 0);
        }
    }

    /** STATE: not in its GUARD, numbers that are not as SET, not in the ROOM then. */
    private void leapByHand() {
        for (int v = 0; v < 3; v++) {
            due.part("a JUMP by hand, VARIABLE " + v);
            JumpFlows x = modes(2);
            int j = x.jump(0, 1);
            x.box(0, v, -9, 9);
            x.guard(j, v, -2, 3);
            for (int at = -4; at <= 5; at++) {
                x.run(v == 0 ? at : 0, v == 1 ? at : 0, v == 2 ? at : 0);
                is("from " + at, x.leap(j, 20, 20, 20), at < -2 || at > 3 ? STATE : 1);
                is("kept", x.now(1 + v), at);
            }
            x.set(j, v, false, -4, -3);
            for (int to = -6; to <= -1; to++) {
                x.run(0, 0, 0);
                boolean can = to == -4 || to == -3;
                is("to " + to, x.leap(j, v == 0 ? to : 9, v == 1 ? to : 9, v == 2 ? to : 9), can ? 1 : STATE);
                is("where it is", x.now(1 + v), can ? to : 0);
                is("its MODE", x.now(0), can ? 1 : 0);
            }
            x.room(1, v, -3, 20);
            x.run(0, 0, 0);
            is("not in the ROOM", x.leap(j, -4, -4, -4), STATE);
            is("just in", x.leap(j, -3, -3, -3), 1);
            is("another MODE", x.leap(j, -3, -3, -3), STATE);
        }
    }

    /** Whether no TICK can be. */
    private void noTickCanBe() {
        for (int v = 0; v < 3; v++) {
            due.part("whether no TICK can be, VARIABLE " + v);
            JumpFlows x = modes(1);
            x.run(0, 0, 0);
            is("level", x.now(6), 0);
            x.slope(0, v, 2, 4);
            x.room(0, v, 0, 2);
            is("one can", x.now(6), 0);
            x.room(0, v, 0, 1);
            is("none can", x.now(6), 1);
            x.slope(0, v, -4, -2);
            x.room(0, v, -2, 0);
            is("one can", x.now(6), 0);
            x.room(0, v, -1, 0);
            is("none can", x.now(6), 1);
            x.slope(0, v, -4, 4);
            is("0 can", x.now(6), 0);
        }
    }

    /** How many JUMPS can be (with some numbers). */
    private void howManyJumpsCanBe() {
        for (int v = 0; v < 3; v++) {
            due.part("how many JUMPS can be, VARIABLE " + v);
            JumpFlows x = modes(2);
            x.run(0, 0, 0);
            is("none", x.now(7), 0);
            for (int j = 0; j < 12; j++) {
                x.jump(j < 11 ? 0 : 1, j % 2);
                is("as many as from its MODE", x.now(7), Math.min(j + 1, 11));
            }
            x.guard(0, v, 0, 5);
            is("just in the GUARD", x.now(7), 11);
            x.guard(0, v, 1, 5);
            is("just out", x.now(7), 10);
            x.guard(2, v, -5, -1);
            is("just out", x.now(7), 9);
            x.room(1, v, 1, 20);
            is("to MODE 1 none", x.now(7), 4);
            x.set(1, v, false, -20, 0);
            is("SET just out of the ROOM", x.now(7), 4);
            x.set(1, v, false, -20, 1);
            is("one number is in the ROOM", x.now(7), 5);
            x.leap(1, 1, 1, 1);
            is("from MODE 1", x.now(7), 1);
        }
    }

    /** Whether it is WRONG. */
    private void wrongOfTheRun() {
        for (int v = 0; v < 3; v++) {
            due.part("whether the RUN is WRONG, VARIABLE " + v);
            JumpFlows x = modes(2);
            x.run(0, 0, 0);
            is("no WRONG", x.now(5), 0);
            x.wrong(0);
            is("all", x.now(5), 1);
            x.box(1, v, 0, 9);
            is("at its least", x.now(5), 1);
            x.box(1, v, 1, 9);
            is("just below", x.now(5), 0);
            x.box(1, v, -9, 0);
            is("at its greatest", x.now(5), 1);
            x.box(1, v, -9, -1);
            is("just above", x.now(5), 0);
            x.box(1, v, -20, 20);
            x.wrong(1);
            is("another MODE", x.now(5), 0);
        }
    }

    /** How many steps it has gone: from 0 with each RUN that begins. */
    private void stepsFromANewRun() {
        due.part("steps");
        JumpFlows x = modes(1);
        x.jump(0, 0);
        is("no RUN", x.now(4), -102);
        x.run(0, 0, 0);
        is("none", x.now(4), 0);
        is("a TICK", x.tick(0, 0, 0), 1);
        is("a JUMP", x.leap(0, 0, 0, 0), 2);
        is("refused", x.tick(1, 0, 0), STATE);
        is("BAD", x.tick(6, 0, 0), BAD);
        is("BAD", x.leap(1, 0, 0, 0), BAD);
        is("two", x.now(4), 2);
        is("STATE", x.run(1, 0, 0), STATE);
        is("BAD", x.run(21, 0, 0), BAD);
        is("two", x.now(4), 2);
        is("a new RUN", x.run(0, 0, 0), 1);
        is("none", x.now(4), 0);
        is("the first again", x.tick(0, 0, 0), 1);
    }
}
