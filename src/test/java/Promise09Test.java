import java.util.function.Consumer;

/** Promise 9: owner. */
public final class Promise09Test extends Machines {
    public static void main(String[] args) {
        Sentence.holds("9.1", "0 .. 7 a register", Promise09Test::registers);
        Sentence.holds("9.2", "100 + a word", Promise09Test::words);
        Sentence.holds("9.3", "200 + 10 * a frame (0 the first) + a register kept in it", Promise09Test::frames);
        Sentence.holds("9.4", "300 + a gate", Promise09Test::gates);
        Sentence.holds("9.5", "400 + a cell;", Promise09Test::cells);
        Sentence.holds("9.6", "-1 if there is none", Promise09Test::none);
        Sentence.holds("9.7", "or no such right or word;", Promise09Test::noSuchThing);
        Sentence.holds("9.8", "The owner of a right (1, 2, 4, 8) to a word", Promise09Test::edgesOfRanges);
        Sentence.holds("9.9", "OWNERS: a right to a word is owned by each place that holds an exclusive capability with it, "
            + "and by each cell whose shared capabilities have it.", Promise09Test::cellOwnsOnce);
        if (Spoilt.canBe()) {
            Sentence.holds("9.10", "of several the least.", Promise09Test::severalOwners);
        }
        Check.end();
    }

    private static void registers() {
        for (int r = 0; r <= 7; r++) {
            Used x = r == 1 ? booted() : ran(o(MOVE, r, 1));
            for (int right = 1; right <= 8; right *= 2) {
                Check.same("owner(0, " + right + ")", x.owner(0, right), r);
                Check.same("owner(47, " + right + ")", x.owner(47, right), r);
            }
        }
    }

    private static void words() {
        for (int w = 0; w <= 47; w++) {
            Used x = ran(o(STORE, 1, 1, w));
            Check.same("held in the word " + w, x.owner(0, 1), 100 + w);
            Check.same("held in the word " + w, x.owner(w, 8), 100 + w);
        }
    }

    /** Each register but R 0 waits in the first frame; then R 7 in each of the five. */
    private static void frames() {
        Used x = ran(joined(sevenParts(), o(SPLIT, 7, 0, 2), o(STORE, 7, 0, 1), o(SEAL, 0, 2, 0), o(MOVE, 7, 0), o(CALL, 7, 0)));
        for (int r = 1; r <= 6; r++) {
            Check.same("kept in the first frame", x.owner(2 * r - 1, 4), 200 + r);
        }
        Check.same("held in a word", x.owner(12, 4), 115);
        Check.same("the gate's, in R 7", x.owner(47, 4), 7);
        x = fiveDeep();
        int[] inR7 = {47, 1, 3, 5, 7};
        for (int frame = 0; frame < 5; frame++) {
            Check.same("R 7 kept in the frame " + frame, x.owner(inR7[frame], 2), 200 + 10 * frame + 7);
        }
        Check.same("R 7 itself", x.owner(9, 2), 7);
        Check.same("the gate that is not open", x.owner(11, 2), 305);
        Check.same("conserve", x.conserve(), 0);
    }

    private static void gates() {
        Used x = ran(sixGates());
        for (int g = 0; g < 6; g++) {
            for (int right = 1; right <= 8; right *= 2) {
                Check.same("the first word in the gate " + g, x.owner(2 * g, right), 300 + g);
                Check.same("the last word in the gate " + g, x.owner(2 * g + 1, right), 300 + g);
            }
        }
        Check.same("in no gate", x.owner(12, 1), 7);
    }

    private static void cells() {
        Used x = ran(sixCells());
        for (int cell = 0; cell < 6; cell++) {
            Check.same("the first word of the cell " + cell, x.owner(2 * cell, 1), 400 + cell);
            Check.same("the last word of the cell " + cell, x.owner(2 * cell + 1, 1), 400 + cell);
            Check.same("write is another's", x.owner(2 * cell, 2), 0);
        }
        Check.same("of no cell", x.owner(12, 1), 7);
        x = ran(joined(sixCells(), o(THAW, 6)));
        Check.same("thawed", x.owner(11, 1), 6);
        Check.same("still shared", x.owner(9, 1), 404);
    }

    private static void none() {
        for (Used x : new Used[] {new Used(), after(() -> ran(CUT), Used::boot).get()}) {
            for (int w = 0; w <= 47; w++) {
                for (int right = 1; right <= 8; right *= 2) {
                    Check.same("not booted", x.owner(w, right), -1);
                }
            }
        }
    }

    private static void noSuchThing() {
        for (Used x : new Used[] {new Used(), booted(), ran(CUT, READ_ONLY, FROZEN)}) {
            for (int w : outside(0, 47)) {
                for (int right = 1; right <= 8; right *= 2) {
                    Check.same("owner(" + w + ", " + right + ")", x.owner(w, right), -1);
                }
            }
            for (int right : new int[] {0, 3, 5, 6, 7, 9, 10, 12, 15, 16, 17, -1, -2, -8, LEAST, MOST}) {
                for (int w : new int[] {0, 16, 47}) {
                    Check.same("owner(" + w + ", " + right + ")", x.owner(w, right), -1);
                }
            }
            Check.same("neither word nor right", x.owner(48, 3), -1);
        }
    }

    private static void edgesOfRanges() {
        Used x = ran(o(SPLIT, 1, 2, 16), o(SPLIT, 2, 3, 1), o(RESTRICT, 3, 4, 9), o(RESTRICT, 4, 5, 4));
        int[][] due = {{0, 1, 1, 1, 1}, {15, 1, 1, 1, 1}, {16, 2, 2, 2, 2}, {17, 3, 5, 4, 3}, {47, 3, 5, 4, 3}};
        for (int[] row : due) {
            for (int bit = 0; bit < 4; bit++) {
                Check.same("owner(" + row[0] + ", " + (1 << bit) + ")", x.owner(row[0], 1 << bit), row[bit + 1]);
            }
        }
    }

    /** Wherever its shared capabilities are held, the cell owns the right. */
    private static void cellOwnsOnce() {
        Used x = ran(CUT, READ_ONLY, FROZEN, o(MOVE, 4, 2), o(STORE, 2, 1, 3), o(DROP, 2), o(DROP, 4));
        Check.same("held in a word alone", x.owner(20, 1), 400);
        Check.same("conserve", x.conserve(), 0);
        x = ran(o(SPLIT, 1, 2, 8), o(SPLIT, 2, 3, 8), o(RESTRICT, 2, 4, 1), o(FREEZE, 2), o(SEAL, 3, 1, 0), o(CALL, 3, 0));
        Check.same("held in a frame alone", x.owner(8, 1), 400);
        Check.same("the other rights are held in the frame", x.owner(8, 2), 204);
        Check.same("conserve", x.conserve(), 0);
    }

    private static void leastIs(String what, int due, int address, Consumer<long[]> change) {
        Check.same(what, Spoilt.places(ran(CUT, READ_ONLY, FROZEN), change).owner(address, 1), due);
    }

    /** R 1 owns read of 0 .. 15, the cell 0 by R 2 that of the others, until a place more has it. */
    private static void severalOwners() {
        long more = Spoilt.read(0, 24);
        leastIs("a lower register", 0, 5, p -> p[0] = more);
        leastIs("a higher register", 1, 5, p -> p[7] = more);
        leastIs("a register before a cell", 7, 20, p -> p[7] = more);
        leastIs("a word before a cell", 103, 20, p -> p[Spoilt.WORDS_AT + 3] = more);
        leastIs("the lower of two words", 102, 20, p -> p[Spoilt.WORDS_AT + 3] = p[Spoilt.WORDS_AT + 2] = more);
        leastIs("a word before a frame", 147, 20, p -> p[Spoilt.WORDS_AT + 47] = p[Spoilt.FRAMES_AT] = more);
        leastIs("a frame before a gate", 200, 20, p -> p[p.length - 1] = p[Spoilt.FRAMES_AT] = more);
        leastIs("a gate before a cell", 305, 20, p -> p[p.length - 1] = more);
        leastIs("the lower of two cells", 400, 20, p -> p[7] = Spoilt.withCell(p[2], 3));
        leastIs("the lower of two cells, met last", 400, 20, p -> p[0] = Spoilt.withCell(p[2], 3));
    }
}
