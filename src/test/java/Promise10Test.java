/** Promise 10: count. */
public final class Promise10Test extends Machines {
    public static void main(String[] args) {
        Sentence.holds("10.1", "CELLS 0 .. 5.", Promise10Test::firstAndLast);
        Sentence.holds("10.2", "The count of a cell;", Promise10Test::counts);
        Sentence.holds("10.3", "`int count(int cell)`: The count of a cell; -1 if there is none.", Promise10Test::noSuchCell);
        Check.end();
    }

    private static void firstAndLast() {
        Used x = booted(sixCells());
        go(x, 7);
        for (int frozen = 0; frozen <= 6; frozen++) {
            for (int cell = 0; cell < 6; cell++) {
                Check.same("count(" + cell + ") after " + frozen, x.count(cell), cell < frozen ? 1 : 0);
            }
            Check.same("step", x.step(1), frozen < 6 ? 0 : 5);
        }
    }

    /** Up with each copy, in registers, words and frames, and down again. */
    private static void counts() {
        int[][] orders = rows(CUT, READ_ONLY, FROZEN, o(MOVE, 4, 2), o(MOVE, 5, 2), o(MOVE, 6, 2), o(MOVE, 7, 2), o(MOVE, 0, 2));
        for (int w = 0; w < 14; w++) {
            orders = joined(orders, o(STORE, 2, 1, w));
        }
        Used x = booted(orders);
        go(x, 2);
        Check.same("before it is shared", x.count(0), 0);
        for (int count = 1; count <= 20; count++) {
            go(x, 1);
            Check.same("the count", x.count(0), count);
        }
        for (int count = 19; count >= 0; count--) {
            Check.same("undo", x.undo(1), 1);
            Check.same("the count taken back", x.count(0), count);
        }
        x = ran(CUT, READ_ONLY, FROZEN, o(MOVE, 4, 2), o(DROP, 2), o(THAW, 4));
        Check.same("dropped and thawed", x.count(0), 0);
        x = ran(o(SPLIT, 1, 2, 8), o(SPLIT, 2, 3, 8), o(RESTRICT, 2, 4, 1), o(FREEZE, 2), o(MOVE, 5, 2), o(SEAL, 3, 1, 0), o(CALL, 3, 2));
        Check.same("one passed, one kept in the frame", x.count(0), 2);
        Check.same("boot again", x.boot(), false);
        Check.same("not booted", x.count(0), 0);
    }

    private static void noSuchCell() {
        for (Used x : new Used[] {new Used(), ran(sixCells()), after(() -> ran(sixCells()), Used::boot).get()}) {
            for (int cell : outside(0, 5)) {
                Check.same("count(" + cell + ")", x.count(cell), -1);
            }
        }
    }
}
