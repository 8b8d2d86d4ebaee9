/** Promise 4: what each order does that stays in its module. */
public final class OrdersTest {
    private static final int[] CUT = Machines.o(Machines.SPLIT, 1, 2, 16);
    private static final int[] READ_ONLY = Machines.o(Machines.RESTRICT, 2, 3, 1);
    private static final int[] FROZEN = Machines.o(Machines.FREEZE, 2);

    public static void main(String[] args) {
        steps();
        numbers();
        moves();
        splits();
        merges();
        restricts();
        sharing();
        loadsAndStores();
        loadsOfShared();
        jumps();
        Check.end();
    }

    private static void steps() {
        UseOnceMachine x = Machines.booted(Machines.o(Machines.JUMP, 0));
        int[] refused = {0, -1, 31, Integer.MIN_VALUE, Integer.MAX_VALUE};
        for (int n : refused) {
            Check.same("step(" + n + ")", x.step(n), -2);
        }
        Check.same("none done", x.look(3), 0);
        Check.same("step(30)", x.step(30), 0);
        Check.same("30 done", x.look(3), 30);
        Check.same("step(1)", x.step(1), 0);
        Check.same("31 done", x.look(3), 31);
        x = Machines.booted(Machines.o(Machines.NUMBER, 0, 1), Machines.o(Machines.HALT), Machines.o(Machines.NUMBER, 0, 2));
        Check.same("stops at HALT", x.step(30), -1);
        Check.same("HALT counts", x.look(3), 2);
        Check.same("runs no more", x.step(30), -1);
        Check.same("nothing more done", x.look(3), 2);
        Machines.registerIs("after HALT", x, 0, 0, 1);
        Check.same("a step that is refused", x.step(0), -2);
    }

    private static void numbers() {
        int max = Integer.MAX_VALUE;
        UseOnceMachine x = Machines.ran(Machines.o(Machines.NUMBER, 2, max), Machines.o(Machines.NUMBER, 3, 1),
            Machines.o(Machines.ADD, 2, 3), Machines.o(Machines.NUMBER, 4, -7), Machines.o(Machines.SUB, 4, 3),
            Machines.o(Machines.NUMBER, 5, Integer.MIN_VALUE), Machines.o(Machines.NUMBER, 6, 0),
            Machines.o(Machines.SUB, 6, 5), Machines.o(Machines.ADD, 3, 3), Machines.o(Machines.SUB, 5, 5));
        Machines.registerIs("wraps", x, 2, 0, Integer.MIN_VALUE, 0, 0, 0);
        Machines.registerIs("less", x, 4, 0, -8);
        Machines.registerIs("0 less the least", x, 6, 0, Integer.MIN_VALUE);
        Machines.registerIs("with itself", x, 3, 0, 2);
        Machines.registerIs("less itself", x, 5, 0, 0);
    }

    private static void moves() {
        UseOnceMachine x = Machines.ran(Machines.o(Machines.NUMBER, 2, 5), Machines.o(Machines.MOVE, 3, 2),
            Machines.o(Machines.MOVE, 2, 2), Machines.o(Machines.MOVE, 4, 1));
        Machines.registerIs("a number is copied", x, 3, 0, 5);
        Machines.registerIs("and stays", x, 2, 0, 5);
        Machines.registerIs("a right moves", x, 4, 1, 0, 48, 15, 0);
        Machines.registerIs("and is gone", x, 1, 0, 0, 0, 0, 0);
        x = Machines.ran(CUT, Machines.o(Machines.SEAL, 2, 0, 0), Machines.o(Machines.MOVE, 5, 2));
        Machines.registerIs("a seal moves", x, 5, 3, 0, 0, 0, 0);
        Machines.registerIs("and is gone", x, 2, 0, 0, 0, 0, 0);
        Check.same("conserve", x.conserve(), 0);
    }

    private static void splits() {
        UseOnceMachine x = Machines.ran(Machines.o(Machines.SPLIT, 1, 2, 1), Machines.o(Machines.SPLIT, 2, 3, 46));
        Machines.registerIs("the first", x, 1, 1, 0, 1, 15, 0);
        Machines.registerIs("the middle", x, 2, 1, 1, 47, 15, 0);
        Machines.registerIs("the last", x, 3, 1, 47, 48, 15, 0);
        x = Machines.ran(Machines.o(Machines.RESTRICT, 1, 2, 6), Machines.o(Machines.SPLIT, 1, 3, 40));
        Machines.registerIs("the same rights", x, 3, 1, 40, 48, 6, 0);
        Check.same("conserve", x.conserve(), 0);
    }

    private static void merges() {
        int[] cutAgain = Machines.o(Machines.SPLIT, 2, 3, 8);
        UseOnceMachine x = Machines.ran(CUT, cutAgain, Machines.o(Machines.MERGE, 2, 3), Machines.o(Machines.MERGE, 2, 1));
        Machines.registerIs("behind and before", x, 2, 1, 0, 48, 15, 0);
        Machines.registerIs("R b is 0", x, 1, 0, 0, 0, 0, 0);
        Machines.registerIs("R b is 0", x, 3, 0, 0, 0, 0, 0);
        x = Machines.ran(CUT, READ_ONLY, Machines.o(Machines.RESTRICT, 3, 4, 8), Machines.o(Machines.MERGE, 4, 2));
        Machines.registerIs("the rights of both", x, 4, 1, 16, 48, 7, 0);
        Machines.registerIs("R b is 0", x, 2, 0, 0);
        Check.same("conserve", x.conserve(), 0);
    }

    private static void restricts() {
        UseOnceMachine x = Machines.ran(Machines.o(Machines.RESTRICT, 1, 2, -2), Machines.o(Machines.RESTRICT, 1, 3, 16 + 8));
        Machines.registerIs("kept", x, 1, 1, 0, 48, 8, 0);
        Machines.registerIs("others", x, 2, 1, 0, 48, 1, 0);
        Machines.registerIs("others of the others", x, 3, 1, 0, 48, 6, 0);
        Check.same("conserve", x.conserve(), 0);
    }

    private static void sharing() {
        UseOnceMachine x = Machines.booted(CUT, READ_ONLY, FROZEN, Machines.o(Machines.MOVE, 4, 2),
            Machines.o(Machines.STORE, 4, 1, 5), Machines.o(Machines.DROP, 2), Machines.o(Machines.LOAD, 2, 1, 5),
            Machines.o(Machines.DROP, 2), Machines.o(Machines.DROP, 4));
        Machines.go(x, 3);
        Machines.registerIs("frozen", x, 2, 2, 16, 48, 1, 0);
        Check.same("count", x.count(0), 1);
        Machines.go(x, 2);
        Check.same("count of a register, another and a word", x.count(0), 3);
        Machines.registerIs("the copy", x, 4, 2, 16, 48, 1, 0);
        Machines.wordIs("the stored copy", x, 5, 2, 16, 48, 1, 0);
        Machines.go(x, 1);
        Check.same("count after DROP", x.count(0), 2);
        Machines.registerIs("dropped", x, 2, 0, 0, 0, 0, 0);
        Machines.go(x, 1);
        Check.same("count after LOAD", x.count(0), 3);
        Machines.wordIs("the word keeps it", x, 5, 2, 16, 48, 1, 0);
        Machines.go(x, 2);
        Check.same("count of the last", x.count(0), 1);
        Check.same("conserve", x.conserve(), 0);
        x = Machines.ran(CUT, READ_ONLY, FROZEN, Machines.o(Machines.THAW, 2));
        Machines.registerIs("thawed", x, 2, 1, 16, 48, 1, 0);
        Check.same("count after THAW", x.count(0), 0);
        Check.same("conserve", x.conserve(), 0);
        lowestCell();
    }

    private static void lowestCell() {
        UseOnceMachine x = Machines.ran(Machines.o(Machines.RESTRICT, 1, 7, 1), Machines.o(Machines.SPLIT, 1, 2, 8),
            Machines.o(Machines.SPLIT, 2, 3, 8), Machines.o(Machines.FREEZE, 1), Machines.o(Machines.FREEZE, 2),
            Machines.o(Machines.THAW, 1), Machines.o(Machines.FREEZE, 3), Machines.o(Machines.FREEZE, 1));
        Machines.registerIs("the cell that was free again", x, 3, 2, 16, 48, 1, 0);
        Machines.registerIs("the second", x, 2, 2, 8, 16, 1, 1);
        Machines.registerIs("the third", x, 1, 2, 0, 8, 1, 2);
        Check.same("conserve", x.conserve(), 0);
    }

    private static void loadsAndStores() {
        UseOnceMachine x = Machines.ran(CUT, Machines.o(Machines.NUMBER, 3, -4), Machines.o(Machines.STORE, 3, 2, 31),
            Machines.o(Machines.LOAD, 4, 2, 31), Machines.o(Machines.STORE, 2, 1, 15), Machines.o(Machines.NUMBER, 3, 6),
            Machines.o(Machines.STORE, 3, 1, 0), Machines.o(Machines.LOAD, 5, 1, 0));
        Machines.wordIs("a number at the last word", x, 47, 0, -4, 0, 0, 0);
        Machines.registerIs("it was loaded", x, 4, 0, -4);
        Machines.registerIs("stored numbers stay", x, 3, 0, 6);
        Machines.wordIs("a loaded number stays", x, 0, 0, 6);
        Machines.wordIs("a right was moved there", x, 15, 1, 16, 48, 15, 0);
        Machines.registerIs("and is gone", x, 2, 0, 0, 0, 0, 0);
        x = Machines.ran(CUT, Machines.o(Machines.SEAL, 2, 0, 0), Machines.o(Machines.STORE, 2, 1, 3),
            Machines.o(Machines.LOAD, 6, 1, 3), Machines.o(Machines.STORE, 1, 1, 9));
        Machines.registerIs("a seal there and back", x, 6, 3, 0, 0, 0, 0);
        Machines.wordIs("none is left there", x, 3, 0, 0, 0, 0, 0);
        Machines.wordIs("a right to its own word", x, 9, 1, 0, 16, 15, 0);
        Check.same("conserve", x.conserve(), 0);
    }

    /** A shared capability is a way to LOAD, and a shared one is taken with the right read alone. */
    private static void loadsOfShared() {
        UseOnceMachine x = Machines.ran(CUT, Machines.o(Machines.SPLIT, 1, 4, 4), READ_ONLY, FROZEN,
            Machines.o(Machines.STORE, 2, 1, 2), Machines.o(Machines.RESTRICT, 1, 5, 1), Machines.o(Machines.FREEZE, 1),
            Machines.o(Machines.LOAD, 6, 1, 2), Machines.o(Machines.LOAD, 7, 1, 0));
        Machines.registerIs("a shared one by a shared one", x, 6, 2, 16, 48, 1, 0);
        Machines.registerIs("a number by a shared one", x, 7, 0, 0);
        Check.same("its count", x.count(0), 3);
        Check.same("the way's count", x.count(1), 1);
        Check.same("conserve", x.conserve(), 0);
    }

    private static void jumps() {
        UseOnceMachine x = Machines.booted(Machines.o(Machines.JUMP, 2), Machines.o(Machines.HALT),
            Machines.o(Machines.ZERO, 2, 4), Machines.o(Machines.HALT), Machines.o(Machines.NUMBER, 2, -1),
            Machines.o(Machines.ZERO, 2, 1), Machines.o(Machines.LESS, 3, 2, 1), Machines.o(Machines.LESS, 2, 2, 1),
            Machines.o(Machines.LESS, 2, 3, -9));
        int[] next = {2, 4, 5, 6, 7, 8, -9};
        for (int due : next) {
            Machines.go(x, 1);
            Check.same("the order that is next", x.look(2), due);
        }
        Machines.faults("no order there", 5, x);
    }
}
