/** Promise 13: reaches. */
public final class Promise13Test extends Machines {
    public static void main(String[] args) {
        Sentence.holds("13.1", "Whether a word can be reached.", Promise13Test::edges);
        Sentence.holds("13.2", "There are 48 WORDS, 0 .. 47", Promise13Test::noSuchWord);
        Sentence.holds("13.3", "gates and frames are closed.", Promise13Test::closed);
        Sentence.holds("13.4", "with the right read, and so on;", Promise13Test::followed);
        Sentence.holds("13.5", "`boolean reaches(int address)`: Whether a word can be reached.", Promise13Test::askedAgain);
        Check.end();
    }

    private static void reachesJust(String what, Used x, int from, int end) {
        for (int w = 0; w <= 47; w++) {
            Check.same(what + ": reaches(" + w + ")", x.reaches(w), from <= w && w < end);
        }
        Check.same(what + ": reach", x.reach(), end - from);
    }

    private static void edges() {
        reachesJust("not booted", new Used(), 0, 0);
        reachesJust("at boot", booted(), 0, 48);
        reachesJust("the first word", ran(o(SPLIT, 1, 2, 1), o(SEAL, 2, 0, 0)), 0, 1);
        reachesJust("the last word", ran(o(SPLIT, 1, 2, 47), o(SEAL, 1, 0, 0)), 47, 48);
        reachesJust("words in the middle", ran(CUT, o(SPLIT, 2, 3, 16), o(SEAL, 1, 0, 0), o(SEAL, 3, 0, 0)), 16, 32);
        reachesJust("after a second boot", after(() -> ran(CUT), Used::boot).get(), 0, 0);
    }

    private static void noSuchWord() {
        for (Used x : new Used[] {new Used(), booted(), ran(CUT, o(STORE, 2, 1, 3))}) {
            for (int w : outside(0, 47)) {
                Check.same("reaches(" + w + ")", x.reaches(w), false);
            }
        }
    }

    private static void closed() {
        reachesJust("gates", ran(CUT, o(SEAL, 2, 0, 0)), 0, 16);
        reachesJust("frames, but for the open gate's", ran(CUT, o(SPLIT, 2, 3, 2), o(SEAL, 2, 1, 0), o(CALL, 2, 0)), 16, 18);
    }

    private static void followed() {
        reachesJust("by a word", ran(CUT, o(SPLIT, 2, 3, 8), o(STORE, 2, 1, 15), o(SEAL, 3, 0, 0)), 0, 24);
        reachesJust("not without read", ran(CUT, o(STORE, 2, 1, 15), o(RESTRICT, 1, 3, 14), o(SEAL, 3, 0, 0)), 0, 16);
    }

    /** What an earlier answer found is forgotten. */
    private static void askedAgain() {
        Used x = booted(CUT, o(STORE, 1, 2, 0), o(SPLIT, 2, 3, 16), o(SEAL, 2, 0, 0));
        reachesJust("at boot", x, 0, 48);
        go(x, 3);
        reachesJust("by a word", x, 0, 48);
        go(x, 1);
        reachesJust("the way is closed", x, 32, 48);
        Check.same("undo", x.undo(1), 1);
        reachesJust("taken back", x, 0, 48);
        Check.same("boot again", x.boot(), false);
        reachesJust("not booted", x, 0, 0);
    }
}
