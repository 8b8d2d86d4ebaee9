/** Promise 11: gate. */
public final class Promise11Test extends Machines {
    public static void main(String[] args) {
        Sentence.holds("11.1", "GATES 0 .. 5", Promise11Test::firstAndLast);
        Sentence.holds("11.2", "0 whether it is there, and not open in a call (1), 2 if it is open, 0 if it is empty;",
            Promise11Test::states);
        Sentence.holds("11.3", "1 its module, 2 its pattern (0 if it is empty);", Promise11Test::moduleAndPattern);
        Sentence.holds("11.4", "-1 if there is none, or no such field.", Promise11Test::noSuchThing);
        Check.end();
    }

    private static void gateIs(String what, Used x, int g, int... due) {
        for (int f = 0; f < due.length; f++) {
            Check.same(what + ": gate(" + g + ", " + f + ")", x.gate(g, f), due[f]);
        }
    }

    private static void firstAndLast() {
        Used x = booted(sixGates());
        go(x, 6);
        for (int sealed = 0; sealed <= 6; sealed++) {
            for (int g = 0; g < 6; g++) {
                Check.same("gate(" + g + ", 0) after " + sealed, x.gate(g, 0), g < sealed ? 1 : 0);
            }
            Check.same("step", x.step(1), sealed < 6 ? 0 : 5);
        }
    }

    private static void states() {
        Used x = booted(rows(CUT, o(SEAL, 2, 1, 9), o(CALL, 2, 0), STOP), rows(BACK), NO_CODE);
        int[] due = {0, 0, 1, 2, 1, 1};
        for (int i = 0; i < due.length; i++) {
            Check.same("gate(0, 0) after " + i, x.gate(0, 0), due[i]);
            Check.same("gate(1, 0) after " + i, x.gate(1, 0), 0);
            x.step(1);
        }
        for (int i = due.length - 2; i >= 0; i--) {
            Check.same("undo", x.undo(1), 1);
            Check.same("gate(0, 0) with " + i + " left", x.gate(0, 0), due[i]);
        }
        x = fiveDeep();
        for (int g = 0; g < 6; g++) {
            Check.same("five are open, the last is not", x.gate(g, 0), g < 5 ? 2 : 1);
        }
        Check.same("boot again", x.boot(), false);
        Check.same("not booted", x.gate(0, 0), 0);
    }

    private static void moduleAndPattern() {
        gateIs("empty", new Used(), 0, 0, 0, 0);
        gateIs("empty at boot", booted(), 5, 0, 0, 0);
        Used x = ran(CUT, o(SEAL, 1, 2, 63), o(SEAL, 2, 0, 5));
        gateIs("the greatest", x, 0, 1, 2, 63);
        gateIs("the second", x, 1, 1, 0, 5);
        gateIs("empty", x, 2, 0, 0, 0);
        Check.same("undo", x.undo(2), 2);
        gateIs("taken back", x, 0, 0, 0, 0);
        gateIs("open", ran(CUT, o(SEAL, 2, 2, 63), o(CALL, 2, 0)), 0, 2, 2, 63);
        x = booted(rows(CUT, o(SEAL, 2, 2, 63), o(CALL, 2, 0)), NO_CODE, rows(BACK));
        Check.same("step", x.step(4), 0);
        gateIs("closed again", x, 0, 1, 2, 63);
        Check.same("boot again", x.boot(), false);
        gateIs("not booted", x, 0, 0, 0, 0);
        lastFaults("a SEAL with a fault fills no gate", 5, o(SEAL, 1, 2, 64));
    }

    private static void noSuchThing() {
        for (Used x : new Used[] {new Used(), ran(sixGates()), fiveDeep()}) {
            for (int g : outside(0, 5)) {
                for (int f = 0; f <= 2; f++) {
                    Check.same("gate(" + g + ", " + f + ")", x.gate(g, f), -1);
                }
            }
            for (int f : outside(0, 2)) {
                for (int g = 0; g < 6; g++) {
                    Check.same("gate(" + g + ", " + f + ")", x.gate(g, f), -1);
                }
                Check.same("neither gate nor field", x.gate(6, f), -1);
            }
        }
    }
}
