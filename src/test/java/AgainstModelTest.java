/**
 * Promises 1 to 14 on many made-up programs: after every call, all that can be seen of the machine
 * is what the model of the document shows. The programs grow order by order while the model runs
 * them, most orders being tried until one without a fault is found.
 */
public final class AgainstModelTest {
    private static final int PROGRAMS = 1000;
    private static final int TRIES = 24;
    private static final int STEP = 0;
    private static final int UNDO = 1;
    private static final int BOOT = 2;
    private static final int[] OPERATIONS = {
        0, 1, 1, 2, 3, 4, 4, 5, 5, 6, 6, 7, 7, 7, 8, 9, 10, 10, 11, 11, 11, 12, 13, 14, 15, 15, 16, 16, 17, 17, 18};

    /** What chance alone would seldom come to: shared capabilities, gates, and words that hold rights. */
    private static final int[][][] STARTS = {
        {},
        {{4, 1, 2, 16}, {6, 2, 3, 1}, {7, 2, 0, 0}},
        {{4, 1, 2, 16}, {6, 2, 3, 1}, {7, 2, 0, 0}, {1, 4, 2, 0}, {11, 2, 1, 3}},
        {{4, 1, 2, 30}, {4, 2, 3, 5}, {4, 3, 4, 5}, {15, 3, 1, 5}, {15, 4, 2, 3}},
        {{4, 1, 2, 12}, {6, 2, 3, 3}, {4, 1, 4, 6}, {15, 4, 1, 2}, {6, 2, 5, 1}, {7, 2, 0, 0}},
        {{4, 1, 2, 12}, {4, 2, 3, 12}, {11, 3, 1, 2}, {6, 1, 3, 1}, {4, 2, 4, 1}, {4, 2, 5, 1}}};

    private static long seed = 20261115L;
    private static final int[] DONE = new int[19];
    private static final int[] FAULTS = new int[9];
    private static int deepest = 0;

    private AgainstModelTest() {
    }

    /** A number below n, from a row that is the same in every run. */
    private static int below(int n) {
        seed = seed * 6364136223846793005L + 1442695040888963407L;
        return (int) ((seed >>> 33) % n);
    }

    public static void main(String[] args) {
        for (int i = 0; i < PROGRAMS; i++) {
            compare(i, program(20 + below(60)));
        }
        for (int op = 0; op < DONE.length; op++) {
            Check.same("operation " + op + " was done in some program", DONE[op] > 0, true);
        }
        for (int fault = 1; fault < FAULTS.length; fault++) {
            Check.same("fault " + fault + " came in some program", FAULTS[fault] > 0, true);
        }
        Check.same("some program comes back often", DONE[17] > 50, true);
        Check.same("some program calls from within a call", deepest > 1, true);
        Check.end();
    }

    private static Model program(int orders) {
        Model scratch = new Model();
        int[][] start = STARTS[below(STARTS.length)];
        for (int[] o : start) {
            scratch.code(0, o[0], o[1], o[2], o[3]);
        }
        scratch.boot();
        for (int i = 0; i < orders && scratch.stop == 0; i++) {
            boolean atEnd = scratch.order == scratch.code.get(scratch.module).size();
            if (atEnd && scratch.order < 24) {
                grow(scratch, below(40) == 0 ? 1 : TRIES);
            } else {
                scratch.step(1);
            }
            deepest = Math.max(deepest, scratch.frames.size());
        }
        return scratch;
    }

    /** Puts an order at the end, and does it: one without a fault, if it is found in so many tries. */
    private static void grow(Model scratch, int tries) {
        for (int t = 1; t <= tries; t++) {
            int[] order = tries == 1 ? aWrongOrder(scratch) : aRightOrder(scratch);
            if (order[0] == 18 && t < tries && below(3) > 0) {
                continue;
            }
            int fault = scratch.fault(order[0], order[1], order[2], order[3]);
            if (fault == 0 || t == tries) {
                scratch.code.get(scratch.module).add(order);
                tally(order[0], fault);
                scratch.step(1);
                return;
            }
        }
    }

    private static int[] aRightOrder(Model scratch) {
        boolean comesBack = scratch.fault(17, 0, 0, 0) == 0 && below(5) == 0;
        int op = comesBack ? 17 : OPERATIONS[below(OPERATIONS.length)];
        int[] order = anOrder(scratch, op);
        for (int t = 0; t < TRIES && scratch.fault(op, order[1], order[2], order[3]) != 0; t++) {
            order = anOrder(scratch, op);
        }
        return order;
    }

    private static void tally(int operation, int answer) {
        if (answer > 0) {
            FAULTS[answer]++;
        } else {
            DONE[operation]++;
        }
    }

    private static int[] anOrder(Model scratch, int op) {
        int a = below(60) == 0 ? 8 - 9 * below(2) : below(8);
        int b = below(60) == 0 ? 8 - 9 * below(2) : below(8);
        int c = below(9) - 1;
        int onward = scratch.order + (below(6) == 0 ? below(26) - 20 : 1);
        switch (op) {
            case 0: return new int[] {op, a, below(4) == 0 ? Integer.MIN_VALUE + below(3) : below(20) - 10, c};
            case 6: return new int[] {op, a, b, below(3) == 0 ? below(2) * 3 + 1 : below(16)};
            case 12: return new int[] {op, onward, b, c};
            case 13: return new int[] {op, a, onward, c};
            case 14: return new int[] {op, a, b, onward};
            case 15: return new int[] {op, a, below(3), below(64)};
            case 16: return new int[] {op, a, below(7), c};
            default: return new int[] {op, a, b, c};
        }
    }

    /** Mostly an order whose fault comes late in the document's row: those are seldom met by chance. */
    private static int[] aWrongOrder(Model scratch) {
        for (int t = 0; t < 200; t++) {
            int[] order = anOrder(scratch, OPERATIONS[below(OPERATIONS.length)]);
            int fault = scratch.fault(order[0], order[1], order[2], order[3]);
            if (fault == 4 || fault == 6 || fault == 7) {
                return order;
            }
        }
        return anOrder(scratch, below(20));
    }

    /** The calls are made anew for each look at all of the machine: one object is good for 512 alone. */
    private static void compare(int run, Model scratch) {
        Model y = new Model();
        for (int m = 0; m < 3; m++) {
            for (int[] o : scratch.code.get(m)) {
                y.code(m, o[0], o[1], o[2], o[3]);
            }
        }
        y.boot();
        int[][] calls = new int[26][];
        for (int i = 0; i < calls.length; i++) {
            int n = below(3) == 0 ? below(34) - 1 : 1 + below(6);
            int kind = i == calls.length - 1 ? BOOT : below(4) == 0 ? UNDO : STEP;
            int answer = kind == BOOT ? y.boot() ? 1 : 0 : kind == UNDO ? y.undo(n) : y.step(n);
            calls[i] = new int[] {kind, n, answer, y.reach(), y.conserve()};
            for (int half = 0; half < Seen.HALVES; half++) {
                Check.same("run " + run + ", call " + i, Seen.all(again(scratch, calls, i), half), Seen.all(y, half));
            }
        }
    }

    private static Used again(Model scratch, int[][] calls, int last) {
        Used x = Machines.booted(orders(scratch, 0), orders(scratch, 1), orders(scratch, 2));
        for (int i = 0; i <= last; i++) {
            int n = calls[i][1];
            int answer = calls[i][0] == BOOT ? x.boot() ? 1 : 0 : calls[i][0] == UNDO ? x.undo(n) : x.step(n);
            Check.same("call " + i + " of kind " + calls[i][0] + " with " + n, answer, calls[i][2]);
            Check.same("reach after call " + i, x.reach(), calls[i][3]);
            Check.same("conserve after call " + i, x.conserve(), calls[i][4]);
        }
        return x;
    }

    private static int[][] orders(Model scratch, int module) {
        return scratch.code.get(module).toArray(new int[0][]);
    }
}
