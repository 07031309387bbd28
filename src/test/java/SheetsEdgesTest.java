/**
 * SHEETS.
 * Each sentence of the document that tells where something begins or ends: what is just on this side of it and
 * what is just beyond. The sentence stands above its test.
 */
public final class SheetsEdgesTest extends EdgeChecks {
    public static void main(String[] args) {
        SheetsEdgesTest test = new SheetsEdgesTest();
        test.lowestBits();
        test.readsOfEachCell();
        test.greatestBelowItsLeast();
        test.firstMet();
        test.noneChanged();
        test.allSixChanged();
        test.newRowOfZeros();
        test.due.end("SheetsEdgesTest");
    }

    private static JumpFlows onSheet(int lane, int... cells) {
        JumpFlows x = modes(2);
        x.jump(0, 1);
        x.sheet(0, lane, cells.length);
        for (int i = 0; i < cells.length; i++) {
            x.lay(0, i, cells[i]);
        }
        for (int v = 0; v < 3; v++) {
            x.box(0, v, -20, 20);
        }
        return x;
    }

    private void lowestBits(int lane, int number, int want) {
        JumpFlows x = onSheet(lane, -20, 20, -20, 20, -20, number);
        boolean isNumber = want >= -20 && want <= 20;
        is("lane " + lane + ": " + number, x.draw(0, 0, 0, lane, 0), isNumber ? 1 : -25);
        is("lane " + lane + ": " + number, x.side(0, 2, true), isNumber ? want : 20);
    }

    /** CELL i of a SHEET becomes v (its lowest bits). */
    private void lowestBits() {
        due.part("the lowest bits");
        int[] bits = {8, 16};
        for (int lane = 0; lane < 2; lane++) {
            int all = 1 << bits[lane];
            lowestBits(lane, all + 20, 20);
            lowestBits(lane, all + 21, 21);
            lowestBits(lane, all - 20, -20);
            lowestBits(lane, -all - 20, -20);
            lowestBits(lane, -all - 21, -21);
            lowestBits(lane, all, 0);
            lowestBits(lane, all - 1, -1);
            lowestBits(lane, all / 2 - 1, all / 2 - 1);
            lowestBits(lane, all / 2, -all / 2);
            lowestBits(lane, -all / 2, -all / 2);
            lowestBits(lane, Integer.MIN_VALUE, 0);
            lowestBits(lane, Integer.MAX_VALUE, -1);
        }
        lowestBits(1, 256, 256);
        lowestBits(2, 256, 256);
        lowestBits(2, 65536, 65536);
        lowestBits(2, 65536 + 20, 65536 + 20);
        lowestBits(2, Integer.MIN_VALUE, Integer.MIN_VALUE);
        lowestBits(2, Integer.MAX_VALUE, Integer.MAX_VALUE);
        lowestBits(2, 20, 20);
    }

    /** -20 less i: CELL f + i is out of its bounds. */
    private void readsOfEachCell() {
        for (int sort = 0; sort < 3; sort++) {
            int bound = sort == 1 ? 5 : 20;
            for (int i = 0; i < 6; i++) {
                due.part("CELL " + i + " of sort " + sort);
                JumpFlows x = onSheet(2, 0, -bound, bound, -bound, bound, -bound, bound, 0);
                is("all in bounds", x.draw(sort, 0, 0, 2, 1), 1);
                boolean least = i % 2 == 0;
                x.lay(0, 1 + i, least ? bound : -bound);
                is("the other end", x.draw(sort, 0, 0, 2, 1), 1);
                x.lay(0, 1 + i, bound + 1);
                is("one above", x.draw(sort, 0, 0, 2, 1), -20 - i);
                x.lay(0, 1 + i, -bound - 1);
                is("one below", x.draw(sort, 0, 0, 2, 1), -20 - i);
                x.lay(0, 1 + i, least ? -bound : bound);
                is("in bounds again", x.draw(sort, 0, 0, 2, 1), 1);
            }
        }
    }

    /** Or a greatest one below its least. */
    private void greatestBelowItsLeast() {
        for (int sort = 0; sort < 3; sort++) {
            for (int v = 0; v < 3; v++) {
                due.part("a greatest one below its least, sort " + sort + ", VARIABLE " + v);
                JumpFlows x = onSheet(0, -1, 1, -1, 1, -1, 1);
                x.lay(0, 2 * v, 1);
                is("equal", x.draw(sort, 0, 0, 0, 0), 1);
                x.lay(0, 2 * v, 2);
                is("one below", x.draw(sort, 0, 0, 0, 0), -21 - 2 * v);
                x.lay(0, 2 * v + 1, 2);
                is("equal", x.draw(sort, 0, 0, 0, 0), 1);
                // A least one above the greatest of the VARIABLE ahead is no fault.
                x.lay(0, 2 * v + 1, 3);
                is("above", x.draw(sort, 0, 0, 0, 0), 1);
            }
        }
    }

    /** Then CELL by CELL INDEX; -20 less i; the first met. */
    private void firstMet() {
        due.part("the first met");
        for (int n = 0; n <= 6; n++) {
            JumpFlows x = onSheet(1, new int[n]);
            is(n + " CELLS", x.draw(0, 0, 0, 1, 0), n == 6 ? 1 : -12);
            for (int i = 0; i < n; i++) {
                x.lay(0, i, 21);
                is("CELL " + i + " of " + n, x.draw(0, 0, 0, 1, 0), -20 - i);
                x.lay(0, i, 0);
            }
            is("ahead of the first", x.draw(0, 0, 0, 1, -1), -12);
            is("another lane", x.draw(0, 0, 0, 0, 0), -13);
            is("another lane", x.draw(0, 0, 0, 2, -1), -13);
            is("nothing", x.draw(0, 0, 1, 1, -1), -11);
        }
        JumpFlows y = onSheet(0, 0, 21, 0, 21, 0, -1);
        is("the first of three", y.draw(0, 0, 0, 0, 0), -21);
        y.lay(0, 1, 0);
        is("the first of two", y.draw(0, 0, 0, 0, 0), -23);
        y.lay(0, 3, 0);
        is("the last", y.draw(0, 0, 0, 0, 0), -25);
        is("INDEX after a good one", y.draw(0, 0, 0, 0, 4), -21);
        y.lay(0, 5, 0);
        is("INDEX after two good ones", y.draw(0, 0, 0, 0, 4), -12);
    }

    /** The first met: then none changed. */
    private void noneChanged() {
        for (int i = 0; i < 6; i++) {
            due.part("none changed, CELL " + i);
            JumpFlows x = onSheet(2, -1, 1, -2, 2, -3, 3);
            x.lay(0, i, 21);
            for (int sort = 0; sort < 3; sort++) {
                is("sort " + sort, x.draw(sort, 0, 0, 2, 0), -20 - i);
            }
            is("the GUARD is all still", x.many(1), 41 * 41 * 41);
            is("the ROOM is all still", x.many(0), 41 * 41 * 41);
            for (int v = 0; v < 3; v++) {
                point(x, 0, v, 0);
            }
            is("the SLOPES are 0 still", x.many(0), 1);
        }
    }

    /** Of each VARIABLE the least, the greatest, six CELLS from CELL f on. */
    private void allSixChanged() {
        for (int f = 0; f < 3; f++) {
            due.part("six CELLS from " + f);
            JumpFlows x = onSheet(0, new int[8]);
            int[] cells = {-1, 2, -3, 4, -5, 5};
            for (int i = 0; i < 6; i++) {
                x.lay(0, f + i, cells[i]);
            }
            is("GUARD", x.draw(2, 0, 0, 0, f), 1);
            for (int v = 0; v < 3; v++) {
                side(x, 1, v, cells[2 * v], cells[2 * v + 1]);
                side(x, 0, v, -20, 20);
            }
            is("ROOM", x.draw(0, 0, 0, 0, f), 1);
            for (int v = 0; v < 3; v++) {
                side(x, 0, v, cells[2 * v], cells[2 * v + 1]);
                point(x, 0, v, 0);
                x.room(0, v, -20, 20);
            }
            is("SLOPES", x.draw(1, 0, 0, 0, f), 1);
            for (int v = 0; v < 3; v++) {
                side(x, 1, v, cells[2 * v], cells[2 * v + 1]);
            }
        }
    }

    /** A SHEET is a new row of CELLS 0. */
    private void newRowOfZeros() {
        for (int lane = 0; lane < 3; lane++) {
            due.part("a new row of zeros, lane " + lane);
            JumpFlows x = onSheet(lane, 1, 2, 3, 4, 5, 6);
            is("as laid", x.draw(0, 0, 0, lane, 0), 1);
            is("n above 60", x.sheet(0, lane, 61), BAD);
            is("SIZE", x.sheet(0, lane, -1), -14);
            is("six still", x.count(4), 6);
            is("as laid", x.side(0, 0, false), 1);
            x.room(0, 0, 9, 9);
            is("as laid", x.draw(0, 0, 0, lane, 0), 1);
            side(x, 0, 0, 1, 2);
            is("a new one", x.sheet(0, lane, 60), 1);
            is("its CELLS", x.count(4), 60);
            is("zeros", x.draw(0, 0, 0, lane, 0), 1);
            for (int v = 0; v < 3; v++) {
                side(x, 0, v, 0, 0);
            }
            is("zeros", x.draw(0, 1, 0, lane, 54), 1);
            x.lay(0, 59, 7);
            x.sheet(0, lane, 6);
            x.sheet(0, lane, 60);
            is("zeros", x.draw(0, 1, 0, lane, 54), 1);
            side(x, 1, 2, 0, 0);
            is("none", x.sheet(0, lane, 0), 1);
            is("its CELLS", x.count(4), 0);
            is("not nothing", x.lay(0, 0, 0), -12);
            is("not nothing", x.draw(0, 0, 0, lane, 0), -12);
            is("the others have nothing", x.lay(1, 0, 0), -11);
        }
    }
}
