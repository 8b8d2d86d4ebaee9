/** Promises 2 and 3: code and boot. */
public final class CodeBootTest {
    public static void main(String[] args) {
        code();
        refusedCode();
        anyOrderIsTaken();
        boot();
        bootAgainForgetsAll();
        Check.end();
    }

    private static void code() {
        UseOnceMachine x = new UseOnceMachine();
        for (int m = 0; m < 3; m++) {
            for (int i = 0; i < 24; i++) {
                Check.same("code in module " + m, x.code(m, Machines.HALT, 0, 0, 0), i);
                Check.same("size of module " + m, x.look(5 + m), i + 1);
            }
            Check.same("the 25th in module " + m, x.code(m, Machines.HALT, 0, 0, 0), -1);
            Check.same("size of module " + m, x.look(5 + m), 24);
        }
    }

    private static void refusedCode() {
        UseOnceMachine x = new UseOnceMachine();
        int[] none = {-1, 3, Integer.MIN_VALUE, Integer.MAX_VALUE};
        for (int m : none) {
            Check.same("code in module " + m, x.code(m, 0, 0, 0, 0), -1);
        }
        Check.same("sizes", x.look(5) + x.look(6) + x.look(7), 0);
        x.boot();
        for (int m = 0; m < 3; m++) {
            Check.same("code while booted", x.code(m, 0, 0, 0, 0), -1);
            Check.same("size", x.look(5 + m), 0);
        }
    }

    private static void anyOrderIsTaken() {
        UseOnceMachine x = new UseOnceMachine();
        Check.same("wrong operation", x.code(1, -5, 99, -99, Integer.MAX_VALUE), 0);
        Check.same("wrong register", x.code(1, 0, Integer.MIN_VALUE, 0, 0), 1);
    }

    private static void boot() {
        UseOnceMachine x = Machines.booted(Machines.o(Machines.HALT));
        Machines.registerIs("at boot", x, 1, 1, 0, 48, 15, 0);
        for (int r = 0; r < 8; r++) {
            if (r != 1) {
                Machines.registerIs("at boot", x, r, 0, 0, 0, 0, 0);
            }
        }
        for (int what = 0; what <= 4; what++) {
            Check.same("look(" + what + ") at boot", x.look(what), 0);
        }
        Check.same("code stays", x.look(5), 1);
        Check.same("conserve", x.conserve(), 0);
        Check.same("reach", x.reach(), 48);
    }

    private static void bootAgainForgetsAll() {
        String fresh = Machines.all(new UseOnceMachine());
        UseOnceMachine x = Machines.booted(
            Machines.rows(Machines.o(4, 1, 2, 8), Machines.o(4, 1, 3, 4), Machines.o(11, 3, 2, 1), Machines.o(6, 1, 3, 1),
                Machines.o(7, 1), Machines.o(15, 2, 1, 63), Machines.o(16, 2, 6)),
            Machines.rows(Machines.o(Machines.HALT)), Machines.rows(Machines.o(Machines.HALT)));
        Check.same("step", x.step(30), -1);
        Check.same("boot again", x.boot(), false);
        Check.same("all is as at first", Machines.all(x), fresh);
        Check.same("nothing to take back", x.undo(40), 0);
        Check.same("nor is anything old brought back", Machines.all(x), fresh);
        Check.same("not booted", x.step(1), -2);
        Check.same("code from 0", x.code(0, Machines.NUMBER, 3, 9, 0), 0);
        Check.same("boot", x.boot(), true);
        Check.same("booted anew", Machines.places(x), Machines.places(Machines.booted(Machines.o(0, 3, 9))));
        Check.same("step", x.step(1), 0);
        Machines.registerIs("after a step", x, 3, 0, 9);
        Check.same("one order done", x.undo(40), 1);
    }
}
