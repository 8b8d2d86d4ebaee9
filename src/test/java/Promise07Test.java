/** Promise 7: word. */
public final class Promise07Test extends Machines {
    public static void main(String[] args) {
        Sentence.holds("7.1", "There are 48 WORDS, 0 .. 47", Promise07Test::firstAndLast);
        Sentence.holds("7.2", "Of a word, as for register;", Promise07Test::asForRegister);
        Sentence.holds("7.3", "-1 if there is none.", Promise07Test::noSuchThing);
        Sentence.holds("7.4", "A PLACE (a register, a word, a register kept in a frame, a gate's inside) holds a NUMBER",
            Promise07Test::numbers);
        Check.end();
    }

    private static void firstAndLast() {
        Used x = ran(o(NUMBER, 2, 7), o(STORE, 2, 1, 0), o(NUMBER, 2, 8), o(STORE, 2, 1, 47));
        for (int w = 0; w <= 47; w++) {
            wordIs("the ends", x, w, 0, w == 0 ? 7 : w == 47 ? 8 : 0, 0, 0, 0);
        }
        for (int w = 0; w <= 47; w++) {
            wordIs("the word " + w, ran(o(NUMBER, 2, -9), o(STORE, 2, 1, w)), w, 0, -9);
        }
    }

    private static void asForRegister() {
        Used x = ran(CUT, READ_ONLY, FROZEN, o(SPLIT, 3, 4, 4), o(SEAL, 4, 0, 0), o(NUMBER, 5, -1), o(STORE, 2, 1, 0),
            o(STORE, 3, 1, 1), o(STORE, 4, 1, 2), o(STORE, 5, 1, 15));
        wordIs("shared", x, 0, 2, 16, 48, 1, 0);
        wordIs("exclusive", x, 1, 1, 16, 20, 14, 0);
        wordIs("seal", x, 2, 3, 0, 0, 0, 0);
        wordIs("number", x, 15, 0, -1, 0, 0, 0);
        x = ran(joined(sixCells(), o(STORE, 6, 0, 47), o(STORE, 7, 0, 0)));
        wordIs("the last cell", x, 47, 2, 10, 12, 1, 5);
        wordIs("read alone", x, 0, 1, 12, 48, 1, 0);
        x = ran(joined(sixGates(), o(STORE, 6, 7, 35)));
        wordIs("the last gate", x, 47, 3, 0, 0, 0, 5);
    }

    private static void noSuchThing() {
        for (Used x : new Used[] {new Used(), ran(CUT, o(STORE, 1, 2, 31)), after(() -> ran(CUT, o(STORE, 1, 2, 31)), Used::boot).get()}) {
            for (int w : outside(0, 47)) {
                for (int f = 0; f <= 4; f++) {
                    Check.same("word(" + w + ", " + f + ")", x.word(w, f), -1);
                }
            }
            for (int f : outside(0, 4)) {
                for (int w = 0; w <= 47; w++) {
                    Check.same("word(" + w + ", " + f + ")", x.word(w, f), -1);
                }
                Check.same("neither word nor field", x.word(48, f), -1);
            }
        }
    }

    private static void numbers() {
        for (int n : new int[] {LEAST, -1, 0, 1, MOST}) {
            wordIs("the number " + n, ran(o(NUMBER, 2, n), o(STORE, 2, 1, 9)), 9, 0, n, 0, 0, 0);
        }
    }
}
