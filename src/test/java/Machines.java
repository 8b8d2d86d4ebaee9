/** The orders by name, machines with code in them, and all that can be seen of one. */
final class Machines {
    static final int NUMBER = 0;
    static final int MOVE = 1;
    static final int ADD = 2;
    static final int SUB = 3;
    static final int SPLIT = 4;
    static final int MERGE = 5;
    static final int RESTRICT = 6;
    static final int FREEZE = 7;
    static final int THAW = 8;
    static final int DROP = 9;
    static final int LOAD = 10;
    static final int STORE = 11;
    static final int JUMP = 12;
    static final int ZERO = 13;
    static final int LESS = 14;
    static final int SEAL = 15;
    static final int CALL = 16;
    static final int RETURN = 17;
    static final int HALT = 18;

    private Machines() {
    }

    /** An order: its operation and up to three numbers behind it. */
    static int[] o(int... parts) {
        int[] order = new int[4];
        System.arraycopy(parts, 0, order, 0, parts.length);
        return order;
    }

    static int[][] rows(int[]... orders) {
        return orders;
    }

    static void write(UseOnceMachine x, int module, int[][] orders) {
        for (int i = 0; i < orders.length; i++) {
            int[] order = orders[i];
            Check.same("code of order " + i, x.code(module, order[0], order[1], order[2], order[3]), i);
        }
    }

    /** A booted machine with this code in module 0. */
    static UseOnceMachine booted(int[]... orders) {
        return booted(orders, new int[0][], new int[0][]);
    }

    static UseOnceMachine booted(int[][] first, int[][] second, int[][] third) {
        UseOnceMachine x = new UseOnceMachine();
        write(x, 0, first);
        write(x, 1, second);
        write(x, 2, third);
        Check.same("boot", x.boot(), true);
        return x;
    }

    /** A machine that has done all of these orders, without a fault. */
    static UseOnceMachine ran(int[]... orders) {
        UseOnceMachine x = booted(orders);
        go(x, orders.length);
        return x;
    }

    /** Does n orders, none of which may stop the machine. */
    static void go(UseOnceMachine x, int n) {
        for (int i = 0; i < n; i++) {
            Check.same("step " + (i + 1) + " of " + n, x.step(1), 0);
        }
    }

    /** The next order has this fault, and nothing else changes. */
    static void faults(String what, int due, UseOnceMachine x) {
        String before = places(x);
        int order = x.look(2);
        int done = x.look(3);
        Check.same(what, x.step(1), due);
        Check.same(what + ": look(4)", x.look(4), due);
        Check.same(what + ": look(2)", x.look(2), order);
        Check.same(what + ": look(3)", x.look(3), done + 1);
        Check.same(what + ": the places", places(x), before);
        Check.same(what + ": step again", x.step(30), due);
        Check.same(what + ": look(3) again", x.look(3), done + 1);
        Check.same(what + ": undo", x.undo(1), 1);
        Check.same(what + ": runs again", x.look(4), 0);
        Check.same(what + ": the places again", places(x), before);
    }

    /** The last of these orders has this fault; those before it have none. */
    static void lastFaults(String what, int due, int[]... orders) {
        UseOnceMachine x = booted(orders);
        go(x, orders.length - 1);
        faults(what, due, x);
    }

    static void registerIs(String what, UseOnceMachine x, int r, int... fields) {
        for (int f = 0; f < fields.length; f++) {
            Check.same(what + ": register(" + r + ", " + f + ")", x.register(r, f), fields[f]);
        }
    }

    static void wordIs(String what, UseOnceMachine x, int address, int... fields) {
        for (int f = 0; f < fields.length; f++) {
            Check.same(what + ": word(" + address + ", " + f + ")", x.word(address, f), fields[f]);
        }
    }

    /** All that can be seen but orders done and the stop. */
    static String places(UseOnceMachine x) {
        return Seen.places(Seen.of(x));
    }

    static String all(UseOnceMachine x) {
        return Seen.all(Seen.of(x));
    }
}
