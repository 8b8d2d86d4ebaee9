/** Promise 1: a new object. */
public final class Promise01Test extends Machines {
    public static void main(String[] args) {
        Sentence.holds("1.1", "Nothing is booted, no code.", Promise01Test::nothingIsBooted);
        Sentence.holds("1.2", "no code.", Promise01Test::noCode);
        Sentence.holds("1.3", "holds a NUMBER (an int; 0 at first)", Promise01Test::zeroAtFirst);
        Sentence.holds("1.4", "An object is used for at most 512 calls after it has been made", Promise01Test::the512thCall);
        Sentence.holds("1.5", "`UseOnceMachine()`", Promise01Test::besideOneThatIsUsed);
        Check.end();
    }

    private static void nothingIsBooted() {
        Used x = new Used();
        Check.same("step", x.step(1), -2);
        Check.same("undo", x.undo(1), 0);
        Check.same("owner", x.owner(0, 1), -1);
        Check.same("reach", x.reach(), 0);
        Check.same("reaches", x.reaches(0), false);
        Check.same("conserve", x.conserve(), 0);
        looksAre("at first", x, 0, 0, 0, 0, 0);
        Check.same("boot", x.boot(), true);
    }

    private static void noCode() {
        Used x = new Used();
        for (int m = 0; m < 3; m++) {
            Check.same("orders of module " + m, x.look(5 + m), 0);
            Check.same("its first order", x.code(m, HALT, 0, 0, 0), 0);
        }
        x = new Used();
        Check.same("boot", x.boot(), true);
        Check.same("there is no order to do", x.step(1), 5);
    }

    private static void zeroAtFirst() {
        Used x = new Used();
        for (int f = 0; f < 5; f++) {
            for (int r = 0; r < 8; r++) {
                Check.same("register(" + r + ", " + f + ")", x.register(r, f), 0);
            }
            for (int w = 0; w < 48; w++) {
                Check.same("word(" + w + ", " + f + ")", x.word(w, f), 0);
            }
        }
        for (int i = 0; i < 6; i++) {
            Check.same("count(" + i + ")", x.count(i), 0);
            for (int f = 0; f < 3; f++) {
                Check.same("gate(" + i + ", " + f + ")", x.gate(i, f), 0);
            }
        }
    }

    /** The dearest calls, up to the last that is promised. */
    private static void the512thCall() {
        Used x = booted(o(NUMBER, 2, 1), o(ADD, 3, 2), o(JUMP, 1));
        int done = 0;
        while (x.calls() < 511) {
            Check.same("step(30)", x.step(30), 0);
            done += 30;
        }
        Check.same("orders done at the 512th call", x.look(3), done);
        x = booted(o(NUMBER, 2, 1), o(ADD, 3, 2), o(JUMP, 1));
        while (x.calls() < 509) {
            x.step(30);
        }
        Check.same("the 510th", x.undo(40), 40);
        Check.same("the 511th", x.undo(1), 0);
        Check.same("the 512th", x.step(30), 0);
        Check.same("calls", x.calls(), 512);
    }

    private static void besideOneThatIsUsed() {
        Used used = ran(CUT, SEALED, o(STORE, 2, 1, 3));
        Used x = new Used();
        Check.same("no code of another", x.look(5), 0);
        Check.same("no gate of another", x.gate(0, 0), 0);
        Check.same("boot", x.boot(), true);
        registerIs("at boot", x, 1, 1, 0, 48, 15, 0);
        wordIs("no word of another", x, 3, 0, 0);
        Check.same("the used one's gate", used.gate(0, 0), 1);
        registerIs("the used one", used, 1, 1, 0, 16, 15, 0);
    }
}
