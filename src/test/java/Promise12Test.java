/** Promise 12: reach. */
public final class Promise12Test extends Machines {
    private static final int[] HALF = o(SPLIT, 1, 2, 4);
    private static final int[] REST = o(SPLIT, 2, 3, 4);
    private static final int[] DEEP = o(STORE, 3, 2, 3);
    private static final int[] NEAR = o(STORE, 2, 1, 0);

    public static void main(String[] args) {
        Sentence.holds("12.1", "How many words can be reached:", Promise12Test::noneAndAll);
        Sentence.holds("12.2", "those in ranges of capabilities that are held in registers", Promise12Test::byRegisters);
        Sentence.holds("12.3", "or in words that lie in the range of one of these with the right read", Promise12Test::byWords);
        Sentence.holds("12.4", "and so on;", Promise12Test::andSoOn);
        Sentence.holds("12.5", "gates and frames are closed.", Promise12Test::closed);
        Sentence.holds("12.6", "`int reach()`: How many words can be reached", Promise12Test::askedAgain);
        Check.end();
    }

    private static void noneAndAll() {
        Check.same("not booted", new Used().reach(), 0);
        Check.same("at boot", booted().reach(), 48);
        Check.same("its own words hold the right to them", ran(o(STORE, 1, 1, 47)).reach(), 0);
        Check.same("one word, the first", ran(o(SPLIT, 1, 2, 1), o(STORE, 2, 2, 0)).reach(), 1);
        Check.same("one word, the last", ran(o(SPLIT, 1, 2, 47), o(STORE, 1, 1, 0)).reach(), 1);
        Check.same("all but one", ran(o(SPLIT, 1, 2, 1), o(STORE, 1, 1, 0)).reach(), 47);
        Check.same("after a second boot", after(() -> ran(CUT), Used::boot).get().reach(), 0);
    }

    private static void byRegisters() {
        for (int r = 0; r <= 7; r++) {
            Check.same("by R " + r, r == 1 ? booted().reach() : ran(o(MOVE, r, 1)).reach(), 48);
        }
        for (int m = 1; m <= 8; m *= 2) {
            int[] others = o(STORE, 3, 1, 0);
            Check.same("any right will do", ran(CUT, o(RESTRICT, 2, 3, m), others, o(SEAL, 1, 0, 0)).reach(), 32);
        }
        Check.same("two ways to the same words", ran(CUT, READ_ONLY).reach(), 48);
        Check.same("a shared one and its copy", ran(CUT, READ_ONLY, FROZEN, o(MOVE, 4, 2), o(SEAL, 3, 0, 0), o(SEAL, 1, 0, 0)).reach(), 32);
        int[][] twoWays = rows(CUT, READ_ONLY, FROZEN, o(MOVE, 4, 2), o(SPLIT, 1, 5, 8), o(STORE, 5, 1, 7), o(MOVE, 6, 1));
        Check.same("a way behind two to the same words", ran(twoWays).reach(), 48);
        Check.same("a number is no way", ran(CUT, o(SEAL, 1, 0, 0), o(NUMBER, 4, 3)).reach(), 32);
        Check.same("a seal is no way", ran(CUT, o(SEAL, 1, 0, 0), o(SEAL, 2, 0, 0)).reach(), 0);
    }

    private static void byWords() {
        Check.same("by the first word of the range", ran(CUT, o(STORE, 2, 1, 0)).reach(), 48);
        Check.same("by the last word of the range", ran(CUT, o(STORE, 2, 1, 15)).reach(), 48);
        Check.same("not by a word behind the range", ran(CUT, o(SPLIT, 2, 3, 1), o(STORE, 3, 2, 0), o(SEAL, 2, 0, 0)).reach(), 16);
        Check.same("not by a word before the range", ran(CUT, o(SPLIT, 1, 3, 15), o(STORE, 1, 3, 0), o(SEAL, 3, 0, 0)).reach(), 32);
        for (int m : new int[] {1, 3, 5, 9, 13}) {
            int[] cutDown = o(RESTRICT, 1, 5, m);
            Check.same("with read: " + m, ran(CUT, o(STORE, 2, 1, 3), cutDown, o(SEAL, 5, 0, 0)).reach(), 48);
        }
        for (int m : new int[] {2, 4, 8, 6, 14}) {
            int[] cutDown = o(RESTRICT, 1, 5, m);
            Check.same("without read: " + m, ran(CUT, o(STORE, 2, 1, 3), cutDown, o(SEAL, 5, 0, 0)).reach(), 16);
        }
        Check.same("by a shared one", ran(CUT, o(STORE, 2, 1, 3), o(RESTRICT, 1, 5, 1), o(SEAL, 5, 0, 0), o(FREEZE, 1)).reach(), 48);
        Check.same("a seal in a word is no way", ran(HALF, o(SEAL, 2, 0, 0), NEAR).reach(), 4);
    }

    /** R 1 to 0 .. 3 holds one to 4 .. 7, that one to 8 .. 47; each is cut down to a right in turn. */
    private static void andSoOn() {
        Check.same("two words away", ran(HALF, REST, DEEP, NEAR).reach(), 48);
        int[] away = o(SEAL, 4, 0, 0);
        Check.same("read alone is enough", ran(HALF, REST, DEEP, o(RESTRICT, 2, 4, 1), NEAR, away).reach(), 48);
        Check.same("not through one without read", ran(HALF, REST, DEEP, o(RESTRICT, 2, 4, 14), NEAR, away).reach(), 8);
        Check.same("another way with read", ran(HALF, REST, DEEP, o(RESTRICT, 2, 4, 14), NEAR).reach(), 48);
        int[][] chain = rows(o(SPLIT, 1, 2, 1), o(SPLIT, 2, 3, 1), o(SPLIT, 3, 4, 1), o(SPLIT, 4, 5, 1), o(SPLIT, 5, 6, 1),
            o(SPLIT, 6, 7, 1));
        for (int r = 7; r >= 2; r--) {
            chain = joined(chain, o(STORE, r, r - 1, 0));
        }
        Check.same("six words away", ran(chain).reach(), 48);
        Check.same("a shared one in its own range", ran(CUT, READ_ONLY, FROZEN, o(STORE, 2, 3, 0), o(SEAL, 1, 0, 0)).reach(), 32);
        int[][] backwards = rows(o(SPLIT, 1, 2, 16), o(SPLIT, 2, 3, 16), o(STORE, 1, 2, 0), o(STORE, 2, 3, 0));
        Check.same("from the last words to the first", ran(backwards).reach(), 48);
    }

    private static void closed() {
        Used x = ran(CUT, o(STORE, 2, 1, 5), o(SEAL, 1, 0, 0));
        Check.same("a gate is closed", x.reach(), 0);
        x = ran(CUT, o(SPLIT, 2, 3, 2), o(SEAL, 2, 1, 0), o(CALL, 2, 0));
        Check.same("a frame is closed, an open gate's is in R 7", x.reach(), 2);
        x = ran(CUT, o(SPLIT, 2, 3, 2), o(SEAL, 2, 1, 0), o(CALL, 2, 1));
        Check.same("with R 1 passed", x.reach(), 18);
        x = booted(rows(CUT, o(SPLIT, 2, 3, 2), o(SEAL, 2, 1, 0), o(CALL, 2, 0)), rows(BACK), NO_CODE);
        Check.same("step", x.step(5), 0);
        Check.same("after a RETURN the gate is closed", x.reach(), 46);
        Check.same("five frames", fiveDeep().reach(), 2);
    }

    /** What an earlier answer found is forgotten. */
    private static void askedAgain() {
        Used x = booted(CUT, o(STORE, 2, 1, 5), o(SPLIT, 1, 2, 4), o(SEAL, 2, 0, 0), o(STORE, 1, 1, 3));
        int[] due = {48, 48, 48, 48, 4, 0};
        for (int i = 0; i < due.length; i++) {
            Check.same("reach after " + i, x.reach(), due[i]);
            Check.same("and again", x.reach(), due[i]);
            x.step(1);
        }
        for (int i = due.length - 1; i >= 0; i--) {
            Check.same("undo", x.undo(1), 1);
            Check.same("reach with " + i + " left", x.reach(), due[i]);
        }
        Check.same("boot again", x.boot(), false);
        Check.same("not booted", x.reach(), 0);
    }
}
