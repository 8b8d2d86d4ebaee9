/** Promises 6 to 14: the calls that only look. */
public final class LooksTest {
    private static final int[] CUT = Machines.o(Machines.SPLIT, 1, 2, 16);

    public static void main(String[] args) {
        wrongArguments();
        registersAndWords();
        look();
        owners();
        counts();
        gates();
        reach();
        reachFollowsRead();
        conserve();
        Check.end();
    }

    private static void wrongArguments() {
        wrongArgumentsOf(new UseOnceMachine());
        wrongArgumentsOf(Machines.ran(CUT, Machines.o(Machines.STORE, 1, 2, 1)));
    }

    /** Numbers that are not 0 .. size - 1. */
    private static int[] wrong(int size) {
        return new int[] {-1, size, Integer.MIN_VALUE, Integer.MAX_VALUE};
    }

    private static void wrongArgumentsOf(UseOnceMachine x) {
        for (int i : wrong(8)) {
            Check.same("register(" + i + ", 0)", x.register(i, 0), -1);
            Check.same("look(" + i + ")", x.look(i), -1);
        }
        for (int i : wrong(5)) {
            Check.same("register(1, " + i + ")", x.register(1, i), -1);
            Check.same("word(17, " + i + ")", x.word(17, i), -1);
        }
        for (int i : wrong(48)) {
            Check.same("word(" + i + ", 0)", x.word(i, 0), -1);
            Check.same("owner(" + i + ", 1)", x.owner(i, 1), -1);
            Check.same("reaches(" + i + ")", x.reaches(i), false);
        }
        for (int i : wrong(6)) {
            Check.same("count(" + i + ")", x.count(i), -1);
            Check.same("gate(" + i + ", 0)", x.gate(i, 0), -1);
        }
        for (int i : wrong(3)) {
            Check.same("gate(0, " + i + ")", x.gate(0, i), -1);
        }
        int[] noRight = {0, 3, 5, 6, 7, 9, 15, 16, -1, Integer.MIN_VALUE, Integer.MAX_VALUE};
        for (int right : noRight) {
            Check.same("owner of right " + right, x.owner(1, right), -1);
        }
    }

    private static void registersAndWords() {
        UseOnceMachine x = Machines.ran(CUT, Machines.o(Machines.RESTRICT, 2, 3, 1), Machines.o(Machines.FREEZE, 2),
            Machines.o(Machines.SPLIT, 3, 4, 4), Machines.o(Machines.SEAL, 4, 0, 0), Machines.o(Machines.NUMBER, 5, -1),
            Machines.o(Machines.STORE, 2, 1, 0), Machines.o(Machines.STORE, 3, 1, 1), Machines.o(Machines.STORE, 4, 1, 2),
            Machines.o(Machines.STORE, 5, 1, 15), Machines.o(Machines.LOAD, 6, 1, 2));
        Machines.registerIs("exclusive", x, 1, 1, 0, 16, 15, 0);
        Machines.registerIs("shared", x, 2, 2, 16, 48, 1, 0);
        Machines.registerIs("gone", x, 3, 0, 0, 0, 0, 0);
        Machines.registerIs("number", x, 5, 0, -1, 0, 0, 0);
        Machines.registerIs("seal", x, 6, 3, 0, 0, 0, 0);
        Machines.wordIs("shared", x, 0, 2, 16, 48, 1, 0);
        Machines.wordIs("exclusive", x, 1, 1, 16, 20, 14, 0);
        Machines.wordIs("taken", x, 2, 0, 0, 0, 0, 0);
        Machines.wordIs("number", x, 15, 0, -1, 0, 0, 0);
        x = Machines.ran(Machines.o(Machines.RESTRICT, 1, 7, 1), Machines.o(Machines.SPLIT, 1, 2, 5), Machines.o(Machines.FREEZE, 1),
            Machines.o(Machines.FREEZE, 2), Machines.o(Machines.SPLIT, 7, 6, 7), Machines.o(Machines.SEAL, 7, 0, 0),
            Machines.o(Machines.SPLIT, 6, 5, 7), Machines.o(Machines.STORE, 2, 6, 0), Machines.o(Machines.SEAL, 5, 0, 0),
            Machines.o(Machines.STORE, 5, 6, 1));
        Machines.registerIs("the second cell", x, 2, 2, 5, 48, 1, 1);
        Machines.wordIs("the second cell", x, 7, 2, 5, 48, 1, 1);
        Machines.wordIs("the second gate", x, 8, 3, 0, 0, 0, 1);
    }

    private static void look() {
        UseOnceMachine x = Machines.booted(Machines.rows(CUT, Machines.o(Machines.SEAL, 2, 2, 0), Machines.o(Machines.CALL, 2, 0)),
            Machines.rows(Machines.o(Machines.HALT), Machines.o(Machines.HALT)), Machines.rows(Machines.o(Machines.NUMBER, 7, 0)));
        int[][] due = {{0, 0, 0, 0, 0}, {0, 0, 1, 1, 0}, {0, 0, 2, 2, 0}, {1, 2, 0, 3, 0}, {1, 2, 0, 4, 3}};
        for (int i = 0; i < due.length; i++) {
            for (int what = 0; what <= 4; what++) {
                Check.same("look(" + what + ") after " + i, x.look(what), due[i][what]);
            }
            Check.same("look(5)", x.look(5), 3);
            Check.same("look(6)", x.look(6), 2);
            Check.same("look(7)", x.look(7), 1);
            x.step(1);
        }
        x = Machines.booted(Machines.o(Machines.HALT));
        Check.same("HALT", x.step(1), -1);
        Check.same("look(4) after HALT", x.look(4), -1);
        Check.same("look(3) after HALT", x.look(3), 1);
        Check.same("look(2) after HALT", x.look(2), 1);
    }

    private static void owners() {
        UseOnceMachine x = Machines.booted(Machines.rows(CUT, Machines.o(Machines.SPLIT, 2, 3, 8), Machines.o(Machines.RESTRICT, 3, 4, 1),
            Machines.o(Machines.FREEZE, 3), Machines.o(Machines.RESTRICT, 4, 5, 2), Machines.o(Machines.STORE, 5, 1, 9),
            Machines.o(Machines.SPLIT, 1, 6, 12), Machines.o(Machines.SEAL, 6, 1, 0), Machines.o(Machines.SPLIT, 2, 7, 4),
            Machines.o(Machines.SEAL, 7, 1, 0), Machines.o(Machines.CALL, 6, 1)), Machines.rows(Machines.o(Machines.HALT)), new int[0][]);
        Check.same("at boot", x.owner(47, 8), 1);
        Machines.go(x, 10);
        Check.same("a register", x.owner(11, 4), 1);
        Check.same("the first word of a range", x.owner(16, 1), 2);
        Check.same("a cell", x.owner(24, 1), 400);
        Check.same("another right of the same word", x.owner(24, 2), 4);
        Check.same("a word that holds it", x.owner(24, 4), 109);
        Check.same("the word that holds it, too", x.owner(47, 8), 109);
        Check.same("a gate", x.owner(12, 1), 300);
        Check.same("the second gate", x.owner(23, 1), 301);
        Machines.go(x, 1);
        Check.same("passed", x.owner(11, 4), 1);
        Check.same("kept in a frame", x.owner(16, 1), 202);
        Check.same("kept in a frame, too", x.owner(30, 2), 204);
        Check.same("a cell whose one is kept", x.owner(24, 1), 400);
        Check.same("the open gate's", x.owner(15, 8), 7);
        Check.same("the other gate's", x.owner(20, 8), 301);
    }

    private static void counts() {
        UseOnceMachine x = Machines.ran(Machines.o(Machines.RESTRICT, 1, 7, 1), Machines.o(Machines.SPLIT, 1, 2, 5),
            Machines.o(Machines.FREEZE, 2), Machines.o(Machines.FREEZE, 1), Machines.o(Machines.MOVE, 3, 1),
            Machines.o(Machines.STORE, 3, 7, 0), Machines.o(Machines.STORE, 3, 7, 1));
        Check.same("count(0)", x.count(0), 1);
        Check.same("count(1)", x.count(1), 4);
        for (int cell = 2; cell < 6; cell++) {
            Check.same("count(" + cell + ")", x.count(cell), 0);
        }
    }

    private static void gates() {
        UseOnceMachine x = Machines.ran(CUT, Machines.o(Machines.SEAL, 1, 2, 63), Machines.o(Machines.SEAL, 2, 0, 5));
        int[][] due = {{1, 2, 63}, {1, 0, 5}, {0, 0, 0}, {0, 0, 0}, {0, 0, 0}, {0, 0, 0}};
        for (int g = 0; g < 6; g++) {
            for (int field = 0; field < 3; field++) {
                Check.same("gate(" + g + ", " + field + ")", x.gate(g, field), due[g][field]);
            }
        }
        Check.same("nothing is reached", x.reach(), 0);
        Check.same("undo", x.undo(1), 1);
        Check.same("taken back", x.gate(1, 0) + x.gate(1, 1) + x.gate(1, 2), 0);
        Check.same("reach", x.reach(), 32);
    }

    private static void reach() {
        UseOnceMachine x = Machines.booted(CUT, Machines.o(Machines.STORE, 2, 1, 5), Machines.o(Machines.SEAL, 1, 0, 0));
        Check.same("at boot", x.reach(), 48);
        Machines.go(x, 2);
        Check.same("by a word", x.reach(), 48);
        Machines.go(x, 1);
        Check.same("a gate is closed", x.reach(), 0);
        Check.same("reaches(5)", x.reaches(5), false);
        x = Machines.booted(Machines.rows(CUT, Machines.o(Machines.SPLIT, 2, 3, 2), Machines.o(Machines.SEAL, 2, 1, 0),
            Machines.o(Machines.CALL, 2, 0)), Machines.rows(Machines.o(Machines.HALT)), new int[0][]);
        Machines.go(x, 4);
        Check.same("a frame is closed", x.reach(), 2);
        for (int w = 0; w < 48; w++) {
            Check.same("reaches(" + w + ")", x.reaches(w), w == 16 || w == 17);
        }
    }

    /** R 1 to 0 .. 3 holds one to 4 .. 7, that one to 8 .. 47; each is cut down to a right in turn. */
    private static void reachFollowsRead() {
        int[] half = Machines.o(Machines.SPLIT, 1, 2, 4);
        int[] rest = Machines.o(Machines.SPLIT, 2, 3, 4);
        int[] deep = Machines.o(Machines.STORE, 3, 2, 3);
        int[] near = Machines.o(Machines.STORE, 2, 1, 0);
        UseOnceMachine x = Machines.ran(half, rest, deep, near);
        Check.same("two words away", x.reach(), 48);
        Check.same("the last", x.reaches(47), true);
        x = Machines.ran(half, rest, deep, Machines.o(Machines.RESTRICT, 2, 4, 1), near, Machines.o(Machines.SEAL, 4, 0, 0));
        Check.same("read alone is enough", x.reach(), 48);
        x = Machines.ran(half, rest, deep, Machines.o(Machines.RESTRICT, 2, 4, 14), near, Machines.o(Machines.SEAL, 4, 0, 0));
        Check.same("not through one without read", x.reach(), 8);
        Check.same("its own words are reached", x.reaches(7), true);
        Check.same("those behind them are not", x.reaches(8), false);
        x = Machines.ran(half, rest, deep, Machines.o(Machines.RESTRICT, 2, 4, 14), near);
        Check.same("another way with read", x.reach(), 48);
        x = Machines.ran(half, rest, deep, near, Machines.o(Machines.RESTRICT, 1, 5, 14), Machines.o(Machines.SEAL, 5, 0, 0));
        Check.same("no read at the first", x.reach(), 4);
        x = Machines.ran(half, rest, deep, near, Machines.o(Machines.RESTRICT, 1, 5, 1), Machines.o(Machines.SEAL, 5, 0, 0),
            Machines.o(Machines.FREEZE, 1));
        Check.same("a shared one is a way", x.reach(), 48);
        x = Machines.ran(half, Machines.o(Machines.SEAL, 2, 0, 0), Machines.o(Machines.STORE, 2, 1, 0));
        Check.same("a seal is none", x.reach(), 4);
        x = Machines.ran(CUT, Machines.o(Machines.RESTRICT, 2, 3, 1), Machines.o(Machines.FREEZE, 2), Machines.o(Machines.MOVE, 4, 2),
            Machines.o(Machines.SPLIT, 1, 5, 8), Machines.o(Machines.STORE, 5, 1, 7), Machines.o(Machines.MOVE, 6, 1));
        Check.same("one way behind two to the same words", x.reach(), 48);
    }

    private static void conserve() {
        Check.same("not booted", new UseOnceMachine().conserve(), 0);
        UseOnceMachine x = Machines.booted(CUT, Machines.o(Machines.RESTRICT, 2, 3, 1), Machines.o(Machines.FREEZE, 2),
            Machines.o(Machines.MOVE, 4, 2), Machines.o(Machines.STORE, 4, 1, 1), Machines.o(Machines.STORE, 3, 1, 2),
            Machines.o(Machines.SEAL, 1, 1, 0), Machines.o(Machines.CALL, 1, 2), Machines.o(Machines.HALT));
        for (int i = 0; i < 9; i++) {
            Check.same("conserve after " + i, x.conserve(), 0);
            x.step(1);
        }
        Check.same("stopped", x.conserve(), 0);
        x.undo(5);
        Check.same("taken back", x.conserve(), 0);
        x.boot();
        Check.same("not booted again", x.conserve(), 0);
    }
}
