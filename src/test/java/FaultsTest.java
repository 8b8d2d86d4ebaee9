/** Promise 4: each fault, which of two comes first, and that an order with a fault changes nothing. */
public final class FaultsTest {
    private static final int[] CUT = Machines.o(Machines.SPLIT, 1, 2, 16);
    private static final int[] READ_ONLY = Machines.o(Machines.RESTRICT, 2, 3, 1);
    private static final int[] FROZEN = Machines.o(Machines.FREEZE, 2);
    private static final int[] SEALED = Machines.o(Machines.SEAL, 2, 1, 0);
    private static final int LEAST = Integer.MIN_VALUE;
    private static final int MOST = Integer.MAX_VALUE;

    public static void main(String[] args) {
        wrongOrders();
        wrongKinds();
        wrongRanges();
        wrongRights();
        fullPlaces();
        unfitMerges();
        wrongCounts();
        noneLeft();
        Check.end();
    }

    private static void wrongOrders() {
        Machines.faults("no code", 5, Machines.booted());
        Machines.faults("behind the last", 5, Machines.ran(Machines.o(Machines.NUMBER, 0, 0)));
        int[] places = {1, 24, -1, LEAST, MOST};
        for (int n : places) {
            UseOnceMachine x = Machines.ran(Machines.o(Machines.JUMP, n));
            Check.same("the order that is next", x.look(2), n);
            Machines.faults("JUMP " + n, 5, x);
        }
        int[] operations = {19, -1, LEAST, MOST};
        for (int operation : operations) {
            Machines.lastFaults("operation " + operation, 5, Machines.o(operation, 0, 0, 0));
        }
        int[] withA = {0, 1, 2, 3, 4, 5, 6, 7, 8, 9, 10, 11, 13, 14, 15, 16};
        int[] withB = {1, 2, 3, 4, 5, 6, 10, 11, 14};
        int[] registers = {8, -1, LEAST, MOST};
        for (int r : registers) {
            for (int operation : withA) {
                Machines.lastFaults("operation " + operation + " with a " + r, 5, Machines.o(operation, r, 0, 1));
            }
            for (int operation : withB) {
                Machines.lastFaults("operation " + operation + " with b " + r, 5, Machines.o(operation, 1, r, 1));
            }
        }
        int[] noModule = {3, -1, LEAST, MOST};
        for (int m : noModule) {
            Machines.lastFaults("SEAL with module " + m, 5, Machines.o(Machines.SEAL, 1, m, 0));
        }
        int[] noPattern = {64, -1, LEAST, MOST};
        for (int p : noPattern) {
            Machines.lastFaults("SEAL with pattern " + p, 5, Machines.o(Machines.SEAL, 1, 0, p));
        }
        int[] noK = {7, -1, LEAST, MOST};
        for (int k : noK) {
            Machines.lastFaults("CALL with " + k, 5, CUT, SEALED, Machines.o(Machines.CALL, 2, k));
            Machines.lastFaults("CALL of a number with " + k, 5, Machines.o(Machines.CALL, 2, k));
        }
        numbersThatAreFree();
    }

    /** What an order has no use for may be anything. */
    private static void numbersThatAreFree() {
        Machines.ran(Machines.o(Machines.NUMBER, 0, 99, 99), Machines.o(Machines.ADD, 0, 0, 99),
            Machines.o(Machines.JUMP, 3, 99, -99), Machines.o(Machines.SPLIT, 1, 2, 16), Machines.o(Machines.RESTRICT, 2, 3, 1),
            Machines.o(Machines.FREEZE, 2, 99, 99), Machines.o(Machines.THAW, 2, -1, -1), Machines.o(Machines.ZERO, 0, 99, 99));
        UseOnceMachine x = Machines.booted(Machines.o(Machines.HALT, 99, 99, 99));
        Check.same("HALT with any numbers", x.step(1), -1);
        Machines.lastFaults("RETURN with any numbers", 8, Machines.o(Machines.RETURN, 99, 99, 99));
    }

    private static void wrongKinds() {
        int[] needExclusive = {Machines.SPLIT, Machines.RESTRICT, Machines.FREEZE, Machines.SEAL};
        for (int operation : needExclusive) {
            Machines.lastFaults(operation + " of a number", 1, Machines.o(operation, 4, 2, 1));
            Machines.lastFaults(operation + " of a shared one", 1, CUT, READ_ONLY, FROZEN, Machines.o(operation, 2, 1, 1));
            Machines.lastFaults(operation + " of a seal", 1, CUT, SEALED, Machines.o(operation, 2, 1, 1));
        }
        int[] needShared = {Machines.THAW, Machines.DROP};
        for (int operation : needShared) {
            Machines.lastFaults(operation + " of a number", 1, Machines.o(operation, 4));
            Machines.lastFaults(operation + " of an exclusive one", 1, Machines.o(operation, 1));
            Machines.lastFaults(operation + " of a seal", 1, CUT, SEALED, Machines.o(operation, 2));
        }
        int[] needNumbers = {Machines.ADD, Machines.SUB, Machines.LESS};
        for (int operation : needNumbers) {
            Machines.lastFaults(operation + " of a right", 1, Machines.o(operation, 1, 0, 0));
            Machines.lastFaults(operation + " with a right", 1, Machines.o(operation, 0, 1, 0));
            Machines.lastFaults(operation + " with a shared one", 1, CUT, READ_ONLY, FROZEN, Machines.o(operation, 0, 2, 0));
            Machines.lastFaults(operation + " with a seal", 1, CUT, SEALED, Machines.o(operation, 0, 2, 0));
        }
        Machines.lastFaults("ZERO of a right", 1, Machines.o(Machines.ZERO, 1, 0));
        Machines.lastFaults("ZERO of a seal", 1, CUT, SEALED, Machines.o(Machines.ZERO, 2, 0));
        Machines.lastFaults("MERGE with a number", 1, Machines.o(Machines.MERGE, 1, 2));
        Machines.lastFaults("MERGE of a number", 1, Machines.o(Machines.MERGE, 2, 1));
        Machines.lastFaults("MERGE of a number with itself", 1, Machines.o(Machines.MERGE, 2, 2));
        Machines.lastFaults("MERGE with a shared one", 1, CUT, READ_ONLY, FROZEN, Machines.o(Machines.MERGE, 3, 2));
        Machines.lastFaults("MERGE with a seal", 1, CUT, SEALED, Machines.o(Machines.MERGE, 1, 2));
        Machines.lastFaults("LOAD by a number", 1, Machines.o(Machines.LOAD, 2, 3, 0));
        Machines.lastFaults("LOAD by a seal", 1, CUT, SEALED, Machines.o(Machines.LOAD, 3, 2, 0));
        Machines.lastFaults("STORE by a number", 1, Machines.o(Machines.STORE, 1, 3, 99));
        Machines.lastFaults("STORE by a seal", 1, CUT, SEALED, Machines.o(Machines.STORE, 3, 2, 0));
        Machines.lastFaults("CALL of a number", 1, Machines.o(Machines.CALL, 2, 0));
        Machines.lastFaults("CALL of a right", 1, Machines.o(Machines.CALL, 1, 0));
        Machines.lastFaults("CALL of a right, R 0 full", 1, CUT, Machines.o(Machines.MOVE, 0, 2), Machines.o(Machines.CALL, 1, 0));
    }

    private static void wrongRanges() {
        int[] sides = {0, 48, -1, 49, LEAST, MOST};
        for (int n : sides) {
            Machines.lastFaults("SPLIT at " + n, 2, Machines.o(Machines.SPLIT, 1, 2, n));
            Machines.lastFaults("SPLIT into itself at " + n, 2, Machines.o(Machines.SPLIT, 1, 1, n));
        }
        int[] outside = {32, -1, -16, LEAST, MOST};
        for (int n : outside) {
            Machines.lastFaults("LOAD at " + n, 2, CUT, Machines.o(Machines.LOAD, 3, 2, n));
            Machines.lastFaults("LOAD into a full one at " + n, 2, CUT, Machines.o(Machines.LOAD, 1, 2, n));
            Machines.lastFaults("STORE at " + n, 2, CUT, Machines.o(Machines.STORE, 3, 2, n));
        }
        UseOnceMachine x = Machines.ran(CUT, Machines.o(Machines.LOAD, 3, 2, 31), Machines.o(Machines.STORE, 3, 2, 0));
        Check.same("both ends are inside", x.look(4), 0);
    }

    private static void wrongRights() {
        int[] masks = {0, 15, 16, -1};
        for (int m : masks) {
            Machines.lastFaults("RESTRICT to " + m, 2, Machines.o(Machines.RESTRICT, 1, 2, m));
            Machines.lastFaults("RESTRICT into itself to " + m, 2, Machines.o(Machines.RESTRICT, 1, 1, m));
        }
        int[] manyRights = {2, 3, 4, 8, 9, 14};
        for (int m : manyRights) {
            Machines.lastFaults("FREEZE with " + m, 2, Machines.o(Machines.RESTRICT, 1, 2, m), Machines.o(Machines.FREEZE, 1));
        }
        Machines.lastFaults("LOAD without read", 2, Machines.o(Machines.RESTRICT, 1, 2, 14), Machines.o(Machines.LOAD, 3, 1, 0));
        Machines.lastFaults("STORE without write", 2, Machines.o(Machines.RESTRICT, 1, 2, 13), Machines.o(Machines.STORE, 3, 1, 0));
        Machines.lastFaults("STORE by a shared one", 2, CUT, READ_ONLY, FROZEN, Machines.o(Machines.STORE, 4, 2, 0));
        Machines.lastFaults("STORE by a shared one, outside", 2, CUT, READ_ONLY, FROZEN, Machines.o(Machines.STORE, 4, 2, 99));
        int[] stored = Machines.o(Machines.STORE, 2, 1, 0);
        int[] noWrite = Machines.o(Machines.RESTRICT, 1, 3, 13);
        Machines.lastFaults("TAKING without write", 2, CUT, stored, noWrite, Machines.o(Machines.LOAD, 4, 1, 0));
        Machines.lastFaults("TAKING without write, R a full", 2, CUT, stored, noWrite, Machines.o(Machines.LOAD, 3, 1, 0));
        Machines.lastFaults("TAKING a seal without write", 2, CUT, SEALED, stored, noWrite, Machines.o(Machines.LOAD, 4, 1, 0));
        Machines.lastFaults("TAKING by a shared one", 2, CUT, stored, Machines.o(Machines.RESTRICT, 1, 3, 1),
            Machines.o(Machines.FREEZE, 1), Machines.o(Machines.LOAD, 4, 1, 0));
        UseOnceMachine x = Machines.ran(CUT, Machines.o(Machines.RESTRICT, 2, 3, 1), FROZEN, stored, Machines.o(Machines.RESTRICT, 1, 5, 1),
            Machines.o(Machines.LOAD, 4, 1, 0));
        Check.same("TAKING a shared one without write", x.count(0), 3);
    }

    private static void fullPlaces() {
        Machines.lastFaults("NUMBER over a right", 3, Machines.o(Machines.NUMBER, 1, 0));
        Machines.lastFaults("NUMBER over a shared one", 3, CUT, READ_ONLY, FROZEN, Machines.o(Machines.NUMBER, 2, 0));
        Machines.lastFaults("NUMBER over a seal", 3, CUT, SEALED, Machines.o(Machines.NUMBER, 2, 0));
        Machines.lastFaults("MOVE of a number over a right", 3, Machines.o(Machines.MOVE, 1, 2));
        Machines.lastFaults("MOVE of a right over a right", 3, CUT, Machines.o(Machines.MOVE, 1, 2));
        Machines.lastFaults("MOVE of a right to itself", 3, Machines.o(Machines.MOVE, 1, 1));
        Machines.lastFaults("MOVE of a shared one to itself", 3, CUT, READ_ONLY, FROZEN, Machines.o(Machines.MOVE, 2, 2));
        Machines.lastFaults("MOVE of a seal to itself", 3, CUT, SEALED, Machines.o(Machines.MOVE, 2, 2));
        Machines.lastFaults("SPLIT into itself", 3, Machines.o(Machines.SPLIT, 1, 1, 5));
        Machines.lastFaults("SPLIT into a full one", 3, CUT, Machines.o(Machines.SPLIT, 1, 2, 5));
        Machines.lastFaults("RESTRICT into itself", 3, Machines.o(Machines.RESTRICT, 1, 1, 1));
        Machines.lastFaults("RESTRICT into a full one", 3, CUT, Machines.o(Machines.RESTRICT, 1, 2, 1));
        Machines.lastFaults("LOAD into a full one", 3, CUT, Machines.o(Machines.LOAD, 2, 1, 0));
        Machines.lastFaults("LOAD into its own way", 3, Machines.o(Machines.LOAD, 1, 1, 0));
        Machines.lastFaults("STORE of a number over a right", 3, CUT, Machines.o(Machines.STORE, 2, 1, 4), Machines.o(Machines.STORE, 2, 1, 4));
        Machines.lastFaults("STORE of a right over a seal", 3, CUT, SEALED, Machines.o(Machines.STORE, 2, 1, 4), Machines.o(Machines.STORE, 1, 1, 4));
        Machines.lastFaults("CALL with R 0 full", 3, CUT, SEALED, Machines.o(Machines.MOVE, 0, 1), Machines.o(Machines.CALL, 2, 0));
        Machines.lastFaults("CALL of R 0", 3, CUT, SEALED, Machines.o(Machines.MOVE, 0, 2), Machines.o(Machines.CALL, 0, 0));
    }

    private static void unfitMerges() {
        int[] cutAgain = Machines.o(Machines.SPLIT, 2, 3, 8);
        Machines.lastFaults("MERGE with itself", 4, Machines.o(Machines.MERGE, 1, 1));
        Machines.lastFaults("MERGE with a gap", 4, CUT, cutAgain, Machines.o(Machines.MERGE, 1, 3));
        Machines.lastFaults("MERGE with a gap before", 4, CUT, cutAgain, Machines.o(Machines.MERGE, 3, 1));
        Machines.lastFaults("MERGE with other rights", 4, CUT, READ_ONLY, Machines.o(Machines.MERGE, 1, 2));
        Machines.lastFaults("MERGE with other rights before", 4, CUT, READ_ONLY, Machines.o(Machines.MERGE, 2, 1));
        Machines.lastFaults("MERGE of no rights in both, another range", 4, Machines.o(Machines.RESTRICT, 1, 2, 3),
            Machines.o(Machines.SPLIT, 1, 3, 9), Machines.o(Machines.MERGE, 1, 2));
        Machines.lastFaults("MERGE of no rights in both, same end", 4, Machines.o(Machines.RESTRICT, 1, 2, 3),
            Machines.o(Machines.SPLIT, 1, 3, 9), Machines.o(Machines.MERGE, 3, 2));
    }

    private static void wrongCounts() {
        int[] copy = Machines.o(Machines.MOVE, 4, 2);
        Machines.lastFaults("THAW with a count of 2", 6, CUT, READ_ONLY, FROZEN, copy, Machines.o(Machines.THAW, 2));
        Machines.lastFaults("DROP with a count of 1", 6, CUT, READ_ONLY, FROZEN, Machines.o(Machines.DROP, 2));
    }

    private static void noneLeft() {
        int[][] orders = new int[14][];
        orders[0] = Machines.o(Machines.RESTRICT, 1, 0, 1);
        for (int i = 1; i <= 6; i++) {
            orders[i] = Machines.o(Machines.SPLIT, i, i + 1, 2);
            orders[i + 6] = Machines.o(Machines.FREEZE, i);
        }
        orders[13] = Machines.o(Machines.FREEZE, 7);
        Machines.lastFaults("FREEZE with no cell left", 7, orders);
        orders[0] = Machines.o(Machines.NUMBER, 0, 0);
        for (int i = 1; i <= 7; i++) {
            orders[i + 6] = Machines.o(Machines.SEAL, i, 1, 0);
        }
        Machines.lastFaults("SEAL with no gate left", 7, orders);
    }
}
