import java.util.function.Consumer;
import java.util.function.Supplier;

/**
 * What the tests share: the orders by name, machines with code in them, and what is due of one.
 * Where much is looked at, a machine is given as a supplier that makes it anew each time, since one
 * object is good for 512 calls alone.
 */
abstract class Machines {
    static final int NUMBER = 0;
    static final int MOVE = 1;
    static final int ADD = 2;
    static final int SUB = 3;
    static final int SPLIT = 4;
    static final int MERGE = 5;
    static final int RESTRICT = 6;
    static final int FREEZE = 7;
    static final int THAW = 8;
    static final int DROP = 9;
    static final int LOAD = 10;
    static final int STORE = 11;
    static final int JUMP = 12;
    static final int ZERO = 13;
    static final int LESS = 14;
    static final int SEAL = 15;
    static final int CALL = 16;
    static final int RETURN = 17;
    static final int HALT = 18;

    static final int LEAST = Integer.MIN_VALUE;
    static final int MOST = Integer.MAX_VALUE;

    static final int[][] NO_CODE = {};
    static final int[] BACK = o(RETURN);
    static final int[] STOP = o(HALT);

    /** R 1 keeps the words 0 .. 15, R 2 gets 16 .. 47. */
    static final int[] CUT = o(SPLIT, 1, 2, 16);
    /** R 2 keeps the right read, R 3 gets the others. */
    static final int[] READ_ONLY = o(RESTRICT, 2, 3, 1);
    static final int[] FROZEN = o(FREEZE, 2);
    static final int[] SEALED = o(SEAL, 2, 1, 0);

    /** An order: its operation and up to three numbers behind it. */
    static int[] o(int... parts) {
        int[] order = new int[4];
        System.arraycopy(parts, 0, order, 0, parts.length);
        return order;
    }

    static int[][] rows(int[]... orders) {
        return orders;
    }

    /** The same order n times. */
    static int[][] times(int n, int[] order) {
        int[][] orders = new int[n][];
        for (int i = 0; i < n; i++) {
            orders[i] = order;
        }
        return orders;
    }

    /** Numbers that are not low .. high. */
    static int[] outside(int low, int high) {
        return new int[] {low - 1, high + 1, LEAST, MOST};
    }

    static void write(Used x, int module, int[]... orders) {
        for (int i = 0; i < orders.length; i++) {
            int[] order = orders[i];
            Check.same("code of order " + i, x.code(module, order[0], order[1], order[2], order[3]), i);
        }
    }

    /** A booted machine with this code in module 0. */
    static Used booted(int[]... orders) {
        return booted(orders, NO_CODE, NO_CODE);
    }

    static Used booted(int[][] first, int[][] second, int[][] third) {
        Used x = new Used();
        write(x, 0, first);
        write(x, 1, second);
        write(x, 2, third);
        Check.same("boot", x.boot(), true);
        return x;
    }

    /** A machine that has done all of these orders, without a fault. */
    static Used ran(int[]... orders) {
        Used x = booted(orders);
        go(x, orders.length);
        return x;
    }

    /** Does n orders, none of which may stop the machine. */
    static void go(Used x, int n) {
        for (int i = 0; i < n; i++) {
            Check.same("step " + (i + 1) + " of " + n, x.step(1), 0);
        }
    }

    static Supplier<Used> after(Supplier<Used> made, Consumer<Used> calls) {
        return () -> {
            Used x = made.get();
            calls.accept(x);
            return x;
        };
    }

    /** The next order has this fault, and nothing else changes; it can be taken back. */
    static void faults(String what, int due, Supplier<Used> made) {
        Supplier<Used> stopped = after(made, x -> Check.same(what, x.step(1), due));
        String before = places(made);
        Check.same(what + ": the places", places(stopped), before);
        int done = made.get().look(3);
        Used x = stopped.get();
        Check.same(what + ": look(4)", x.look(4), due);
        Check.same(what + ": look(3)", x.look(3), done + 1);
        Check.same(what + ": step again", x.step(30), due);
        Check.same(what + ": look(3) again", x.look(3), done + 1);
        Check.same(what + ": undo", x.undo(1), 1);
        Check.same(what + ": runs again", x.look(4), 0);
        Check.same(what + ": the places again", places(after(stopped, y -> y.undo(1))), before);
    }

    /** The last of these orders has this fault; those before it have none. */
    static void lastFaults(String what, int due, int[]... orders) {
        faults(what, due, () -> {
            Used x = booted(orders);
            go(x, orders.length - 1);
            return x;
        });
    }

    /** This call leaves all as it is: what is seen, what undo brings back, and what the machine does next. */
    static void changesNothing(String what, Supplier<Used> made, Consumer<Used> call) {
        Supplier<Used> called = after(made, call);
        Check.same(what + ": all", all(called), all(made));
        alike(what + ": undo", made, called, x -> x.undo(1));
        alike(what + ": undo of all", made, called, x -> x.undo(40));
        alike(what + ": step", made, called, x -> x.step(1));
        alike(what + ": boot and step", made, called, x -> {
            x.boot();
            x.step(30);
        });
    }

    private static void alike(String what, Supplier<Used> made, Supplier<Used> called, Consumer<Used> calls) {
        Check.same(what, all(after(called, calls)), all(after(made, calls)));
    }

    static void registerIs(String what, Used x, int r, int... fields) {
        for (int f = 0; f < fields.length; f++) {
            Check.same(what + ": register(" + r + ", " + f + ")", x.register(r, f), fields[f]);
        }
    }

    static void wordIs(String what, Used x, int address, int... fields) {
        for (int f = 0; f < fields.length; f++) {
            Check.same(what + ": word(" + address + ", " + f + ")", x.word(address, f), fields[f]);
        }
    }

    static void looksAre(String what, Used x, int... due) {
        for (int i = 0; i < due.length; i++) {
            Check.same(what + ": look(" + i + ")", x.look(i), due[i]);
        }
    }

    /** All that can be seen but orders done and the stop. */
    static String places(Supplier<Used> made) {
        StringBuilder text = new StringBuilder();
        for (int half = 0; half < Seen.HALVES; half++) {
            text.append(Seen.places(made.get(), half));
        }
        return text.toString();
    }

    static String all(Supplier<Used> made) {
        StringBuilder text = new StringBuilder();
        for (int half = 0; half < Seen.HALVES; half++) {
            text.append(Seen.all(made.get(), half));
        }
        return text.toString();
    }

    /** Registers 1 .. 6 hold two words each, R 7 the words 12 .. 47. */
    static int[][] sevenParts() {
        int[][] orders = new int[6][];
        for (int i = 1; i <= 6; i++) {
            orders[i - 1] = o(SPLIT, i, i + 1, 2);
        }
        return orders;
    }

    static int[][] joined(int[][] orders, int[]... more) {
        int[][] both = new int[orders.length + more.length][];
        System.arraycopy(orders, 0, both, 0, orders.length);
        System.arraycopy(more, 0, both, orders.length, more.length);
        return both;
    }

    /** All six cells: registers 1 .. 6 share two words each with the cells 0 .. 5; R 7 has read of 12 .. 47, R 0 all else. */
    static int[][] sixCells() {
        int[][] orders = joined(rows(o(RESTRICT, 1, 0, 1)), sevenParts());
        for (int i = 1; i <= 6; i++) {
            orders = joined(orders, o(FREEZE, i));
        }
        return orders;
    }

    /** All six gates, of module 1 (the gate 4 of module 2): R 1 .. R 6 hold their seals, R 7 the words 12 .. 47. */
    static int[][] sixGates() {
        int[][] orders = sevenParts();
        for (int i = 1; i <= 6; i++) {
            orders = joined(orders, o(SEAL, i, i == 5 ? 2 : 1, 0));
        }
        return orders;
    }

    /** Each call of it passes the seals of the gates that are still closed one register down. */
    static final int[][] CALLS_ON = {o(STORE, 1, 7, 0), o(MOVE, 1, 2), o(MOVE, 2, 3), o(MOVE, 3, 4), o(MOVE, 4, 5),
        o(MOVE, 5, 6), o(CALL, 1, 6)};

    /** Five calls deep, in module 2 at this code: R 1 and R 2 hold the seals of the gates 4, open, and 5, closed. */
    static Used fiveDeep(int[]... code) {
        Used x = booted(joined(sixGates(), o(CALL, 1, 6)), CALLS_ON, code);
        go(x, 13 + 4 * CALLS_ON.length);
        Check.same("five deep", x.look(0), 5);
        return x;
    }
}
