/** Promise 8: look. */
public final class Promise08Test extends Machines {
    public static void main(String[] args) {
        Sentence.holds("8.1", "0 the depth", Promise08Test::depth);
        Sentence.holds("8.2", "1 the module that runs", Promise08Test::module);
        Sentence.holds("8.3", "2 the order that is next", Promise08Test::next);
        Sentence.holds("8.4", "3 orders done since the boot (faults and HALT among them, less those taken back)", Promise08Test::done);
        Sentence.holds("8.5", "4 the fault's code or -1 for halted, 0 if it runs;", Promise08Test::stop);
        Sentence.holds("8.6", "5 how many words module code 0 has, 6 and 7 those of 1 and 2;", Promise08Test::codes);
        Sentence.holds("8.7", "-1 for another what.", Promise08Test::anotherWhat);
        Check.end();
    }

    private static void depth() {
        Check.same("not booted", new Used().look(0), 0);
        Check.same("at boot", booted().look(0), 0);
        Used x = booted(joined(sixGates(), o(CALL, 1, 6)), CALLS_ON, rows(o(CALL, 2, 0)));
        go(x, 12);
        for (int depth = 0; depth <= 4; depth++) {
            Check.same("the depth", x.look(0), depth);
            go(x, depth == 0 ? 1 : CALLS_ON.length);
        }
        Check.same("the depth", x.look(0), 5);
        Check.same("no deeper", x.step(1), 7);
        Check.same("the depth", x.look(0), 5);
    }

    private static void module() {
        for (int m = 0; m <= 2; m++) {
            Used x = ran(CUT, o(SEAL, 2, m, 0), o(CALL, 2, 0));
            Check.same("the module", x.look(1), m);
            Check.same("undo", x.undo(1), 1);
            Check.same("the module", x.look(1), 0);
        }
        Used x = booted(rows(CUT, o(SEAL, 2, 2, 0), o(CALL, 2, 0)), NO_CODE, rows(BACK));
        Check.same("step", x.step(4), 0);
        Check.same("the module after a RETURN", x.look(1), 0);
    }

    private static void next() {
        Used x = booted(times(24, o(NUMBER, 2, 1)));
        for (int i = 0; i <= 24; i++) {
            Check.same("the order that is next", x.look(2), i);
            Check.same("step", x.step(1), i < 24 ? 0 : 5);
        }
        Check.same("after a fault", x.look(2), 24);
        for (int n : new int[] {0, 23, 24, -1, LEAST, MOST}) {
            Check.same("after JUMP " + n, ran(o(JUMP, n)).look(2), n);
        }
        x = booted(STOP);
        Check.same("HALT", x.step(1), -1);
        Check.same("after HALT", x.look(2), 1);
    }

    private static void done() {
        Used x = booted(CUT, o(NUMBER, 3, 3), STOP);
        Check.same("at boot", x.look(3), 0);
        Check.same("step", x.step(2), 0);
        Check.same("after two", x.look(3), 2);
        Check.same("step", x.step(30), -1);
        Check.same("HALT among them", x.look(3), 3);
        Check.same("step", x.step(30), -1);
        Check.same("no more", x.look(3), 3);
        Check.same("undo", x.undo(2), 2);
        Check.same("less those taken back", x.look(3), 1);
        Check.same("step", x.step(0), -2);
        Check.same("a refused step is none", x.look(3), 1);
        x = booted(CUT, BACK);
        Check.same("step", x.step(30), 8);
        Check.same("the fault among them", x.look(3), 2);
        Check.same("undo", x.undo(40), 2);
        Check.same("all taken back", x.look(3), 0);
        x = booted(o(JUMP, 0));
        for (int i = 1; i <= 200; i++) {
            x.step(30);
        }
        Check.same("many", x.look(3), 6000);
        Check.same("undo", x.undo(40), 40);
        Check.same("less the most that are taken back", x.look(3), 5960);
        Check.same("boot again", x.boot(), false);
        Check.same("since the boot", x.look(3), 0);
    }

    private static void stop() {
        Check.same("not booted", new Used().look(4), 0);
        Check.same("at boot", booted().look(4), 0);
        int[][] orders = {o(ADD, 0, 1), o(LOAD, 0, 1, 48), o(MOVE, 1, 0), o(MERGE, 1, 1), o(19)};
        for (int i = 0; i < orders.length; i++) {
            stopsWith(i + 1, booted(orders[i]));
        }
        stopsWith(6, booted(CUT, READ_ONLY, FROZEN, o(DROP, 2)));
        stopsWith(7, booted(joined(sixGates(), o(SEAL, 7, 0, 0))));
        stopsWith(8, booted(BACK));
        stopsWith(-1, booted(STOP));
    }

    private static void stopsWith(int due, Used x) {
        Check.same("step", x.step(30), due);
        Check.same("look(4)", x.look(4), due);
        Check.same("undo", x.undo(1), 1);
        Check.same("it runs", x.look(4), 0);
        Check.same("step", x.step(1), due);
        Check.same("boot again", x.boot(), false);
        Check.same("not booted", x.look(4), 0);
    }

    private static void codes() {
        Used x = new Used();
        for (int m = 0; m < 3; m++) {
            for (int i = 0; i < 24; i++) {
                Check.same("module " + m, x.look(5 + m), i);
                x.code(m, HALT, 0, 0, 0);
            }
            x.code(m, HALT, 0, 0, 0);
            Check.same("module " + m + " is full", x.look(5 + m), 24);
        }
        x = booted(rows(STOP), rows(STOP, STOP), rows(STOP, STOP, STOP));
        looksAre("booted", x, 0, 0, 0, 0, 0, 1, 2, 3);
        Check.same("step", x.step(1), -1);
        Check.same("undo", x.undo(1), 1);
        looksAre("taken back", x, 0, 0, 0, 0, 0, 1, 2, 3);
        Check.same("boot again", x.boot(), false);
        looksAre("gone", x, 0, 0, 0, 0, 0, 0, 0, 0);
    }

    private static void anotherWhat() {
        for (Used x : new Used[] {new Used(), booted(STOP), after(() -> booted(STOP), y -> y.step(1)).get()}) {
            for (int what : outside(0, 7)) {
                Check.same("look(" + what + ")", x.look(what), -1);
            }
        }
    }
}
