import java.util.function.Consumer;

/** Promise 14: conserve. */
public final class Promise14Test extends Machines {
    public static void main(String[] args) {
        Sentence.holds("14.1", "0 (also if it is not booted)", Promise14Test::notBooted);
        Sentence.holds("14.2", "if each right to each word has just one owner, and each cell's count is the number of places that hold it;",
            Promise14Test::everyState);
        Sentence.holds("14.3", "none is ever lost or doubled;", Promise14Test::fullMachines);
        if (Spoilt.canBe()) {
            Sentence.holds("14.4", "else 1 + the first word of which some right has not", Promise14Test::wrongWords);
            Sentence.holds("14.5", "or 100 + the first cell of which that is not so.", Promise14Test::wrongCells);
        }
        Check.end();
    }

    private static void notBooted() {
        Check.same("a new one", new Used().conserve(), 0);
        Used x = new Used();
        write(x, 0, CUT, STOP);
        Check.same("with code", x.conserve(), 0);
        Check.same("boot", x.boot(), true);
        Check.same("at boot", x.conserve(), 0);
        Check.same("step", x.step(1), 0);
        Check.same("boot again", x.boot(), false);
        Check.same("after a second boot", x.conserve(), 0);
    }

    private static void everyState() {
        Used x = booted(CUT, READ_ONLY, FROZEN, o(MOVE, 4, 2), o(STORE, 4, 1, 1), o(STORE, 3, 1, 2), o(SEAL, 1, 1, 0), o(CALL, 1, 2));
        for (int i = 0; i < 9; i++) {
            Check.same("conserve after " + i, x.conserve(), 0);
            x.step(1);
        }
        Check.same("stopped by a fault", x.look(4), 5);
        Check.same("conserve", x.conserve(), 0);
        for (int i = 0; i < 9; i++) {
            Check.same("undo", x.undo(1), 1);
            Check.same("taken back", x.conserve(), 0);
        }
    }

    private static void fullMachines() {
        Check.same("six cells", ran(sixCells()).conserve(), 0);
        Check.same("six gates", ran(sixGates()).conserve(), 0);
        Check.same("five frames", fiveDeep().conserve(), 0);
        Check.same("unreachable", ran(o(STORE, 1, 1, 0)).conserve(), 0);
        Check.same("halted", after(() -> booted(CUT, STOP), x -> x.step(2)).get().conserve(), 0);
    }

    /** R 1 has all rights to 0 .. 15; read of the others is shared by R 2 and R 4; R 3 has the rest. */
    private static Used good() {
        return ran(CUT, READ_ONLY, FROZEN, o(MOVE, 4, 2));
    }

    private static void wordIsWrong(String what, int due, Consumer<long[]> change) {
        Check.same(what, Spoilt.places(good(), change).conserve(), due);
    }

    private static void wrongWords() {
        wordIsWrong("unspoilt", 0, p -> { });
        wordIsWrong("all rights to the words from 0 are lost", 1, p -> p[1] = 0);
        wordIsWrong("some rights to the words from 16 are lost", 17, p -> p[3] = 0);
        wordIsWrong("read is lost from 16", 17, p -> p[2] = p[4] = 0);
        for (int right = 1; right <= 8; right *= 2) {
            long bit = (long) right << 16;
            wordIsWrong("the right " + right + " alone is lost from 0", 1, p -> p[1] -= bit);
            wordIsWrong("the right " + right + " alone is doubled from 40", 41, p -> p[6] = 1L << 32 | bit | 48 << 8 | 40);
        }
        wordIsWrong("read is doubled from 0", 1, p -> p[6] = Spoilt.read(0, 24));
        wordIsWrong("read is doubled from 20, by a cell and a register", 21, p -> p[6] = Spoilt.read(20, 24));
        wordIsWrong("read is lost of the last word alone", 48, p -> p[2] = p[4] = p[2] - (1 << 8));
        wordIsWrong("doubled in the last word", 24, p -> p[Spoilt.WORDS_AT + 47] = Spoilt.read(23, 24));
        wordIsWrong("doubled in a frame", 24, p -> p[Spoilt.FRAMES_AT] = Spoilt.read(23, 24));
        wordIsWrong("doubled in a gate", 24, p -> p[p.length - 1] = Spoilt.read(23, 24));
        wordIsWrong("doubled by two cells", 17, p -> p[4] = Spoilt.withCell(p[4], 5));
        Used x = Spoilt.counts(Spoilt.places(good(), p -> p[3] = 0), c -> c[0] = 3);
        Check.same("words come before cells", x.conserve(), 17);
    }

    private static void cellIsWrong(String what, int due, Consumer<int[]> change) {
        Check.same(what, Spoilt.counts(good(), change).conserve(), due);
    }

    private static void wrongCells() {
        cellIsWrong("a count is too low", 100, c -> c[0] = 1);
        cellIsWrong("a count is too high", 100, c -> c[0] = 3);
        cellIsWrong("the last cell, which nothing holds", 105, c -> c[5] = 1);
        cellIsWrong("the first of two", 102, c -> c[4] = c[2] = 1);
        wordIsWrong("a copy that was not counted", 100, p -> p[Spoilt.WORDS_AT + 47] = p[2]);
        Used x = Spoilt.counts(Spoilt.places(good(), p -> p[3] = 0), c -> c[0] = 3);
        Check.same("boot again", x.boot(), false);
        Check.same("not booted", x.conserve(), 0);
    }
}
