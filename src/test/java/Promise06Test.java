/** Promise 6: register. */
public final class Promise06Test extends Machines {
    public static void main(String[] args) {
        Sentence.holds("6.1", "REGISTERS 0 .. 7", Promise06Test::firstAndLast);
        Sentence.holds("6.2", "0 what it holds: 0 a number, 1 exclusive, 2 shared, 3 a seal;", Promise06Test::kinds);
        Sentence.holds("6.3", "1 the number, or from;", Promise06Test::numberOrFrom);
        Sentence.holds("6.4", "2 end; 3 the rights;", Promise06Test::endAndRights);
        Sentence.holds("6.5", "4 the cell or gate (0 where there is no such thing).", Promise06Test::cellOrGate);
        Sentence.holds("6.6", "-1 for another register or field.", Promise06Test::noSuchThing);
        Sentence.holds("6.7", "or a SEAL, which has but a gate's number.", Promise06Test::seals);
        Check.end();
    }

    private static void firstAndLast() {
        for (int r = 0; r <= 7; r++) {
            registerIs("a number", ran(o(MOVE, r == 2 ? 3 : 2, 1), o(NUMBER, r, 10 + r)), r, 0, 10 + r, 0, 0, 0);
            if (r != 1) {
                registerIs("a right", ran(o(MOVE, r, 1)), r, 1, 0, 48, 15, 0);
            }
        }
    }

    /** R 1 exclusive, R 2 shared, R 3 exclusive, R 4 a seal, R 5 a number. */
    private static Used eachKind() {
        return ran(CUT, READ_ONLY, FROZEN, o(SPLIT, 3, 4, 4), o(SEAL, 4, 0, 0), o(NUMBER, 5, -1));
    }

    private static void kinds() {
        Used x = eachKind();
        int[] due = {0, 1, 2, 1, 3, 0, 0, 0};
        for (int r = 0; r <= 7; r++) {
            Check.same("register(" + r + ", 0)", x.register(r, 0), due[r]);
        }
    }

    private static void numberOrFrom() {
        Used x = eachKind();
        int[] due = {0, 0, 16, 16, 0, -1, 0, 0};
        for (int r = 0; r <= 7; r++) {
            Check.same("register(" + r + ", 1)", x.register(r, 1), due[r]);
        }
        for (int n : new int[] {LEAST, -1, 0, 1, MOST}) {
            registerIs("the number " + n, ran(o(NUMBER, 2, n)), 2, 0, n, 0, 0, 0);
        }
        registerIs("from the last word on", ran(o(SPLIT, 1, 2, 47)), 2, 1, 47, 48, 15, 0);
    }

    private static void endAndRights() {
        Used x = eachKind();
        int[] end = {0, 16, 48, 20, 0, 0, 0, 0};
        int[] rights = {0, 15, 1, 14, 0, 0, 0, 0};
        for (int r = 0; r <= 7; r++) {
            Check.same("register(" + r + ", 2)", x.register(r, 2), end[r]);
            Check.same("register(" + r + ", 3)", x.register(r, 3), rights[r]);
        }
        registerIs("the first word alone", ran(o(SPLIT, 1, 2, 1)), 1, 1, 0, 1, 15, 0);
    }

    private static void cellOrGate() {
        Used x = ran(sixCells());
        for (int cell = 0; cell < 6; cell++) {
            Check.same("the cell " + cell, x.register(cell + 1, 4), cell);
        }
        Check.same("of an exclusive one", x.register(7, 4), 0);
        x = ran(sixGates());
        for (int gate = 0; gate < 6; gate++) {
            Check.same("the gate " + gate, x.register(gate + 1, 4), gate);
        }
        Check.same("of a number", x.register(0, 4), 0);
        Check.same("of a negative number", ran(o(NUMBER, 2, -1)).register(2, 4), 0);
        Check.same("thawed from the last cell", ran(joined(sixCells(), o(THAW, 6))).register(6, 4), 0);
    }

    private static void noSuchThing() {
        for (Used x : new Used[] {new Used(), eachKind(), after(Promise06Test::eachKind, Used::boot).get()}) {
            for (int r : outside(0, 7)) {
                for (int f = 0; f <= 4; f++) {
                    Check.same("register(" + r + ", " + f + ")", x.register(r, f), -1);
                }
            }
            for (int f : outside(0, 4)) {
                for (int r = 0; r <= 7; r++) {
                    Check.same("register(" + r + ", " + f + ")", x.register(r, f), -1);
                }
                Check.same("neither register nor field", x.register(8, f), -1);
            }
        }
    }

    private static void seals() {
        Used x = ran(sixGates());
        for (int gate = 0; gate < 6; gate++) {
            registerIs("a seal", x, gate + 1, 3, 0, 0, 0, gate);
        }
    }
}
