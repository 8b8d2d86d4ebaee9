/** Promise 4: SEAL, CALL and RETURN, the frames, what is lent, and what a return needs. */
public final class CallTest {
    private static final int[] BACK = Machines.o(Machines.RETURN);
    private static final int[] STOP = Machines.o(Machines.HALT);
    private static final int[][] NONE = {};

    public static void main(String[] args) {
        seals();
        callAndReturn();
        everyRegisterIsKeptOrPassed();
        sealPassedOn();
        sharedOnesKeepTheirCount();
        openGate();
        fiveFrames();
        fiveFramesAndBack();
        goodReturns();
        badReturns();
        Check.end();
    }

    private static void seals() {
        UseOnceMachine x = Machines.ran(Machines.o(Machines.SPLIT, 1, 2, 40), Machines.o(Machines.SPLIT, 2, 3, 4),
            Machines.o(Machines.SEAL, 3, 2, 63), Machines.o(Machines.RESTRICT, 2, 4, 8), Machines.o(Machines.SEAL, 2, 0, 0));
        Machines.registerIs("the first gate", x, 3, 3, 0, 0, 0, 0);
        Machines.registerIs("the second gate", x, 2, 3, 0, 0, 0, 1);
        Check.same("gate(0, 1)", x.gate(0, 1), 2);
        Check.same("gate(0, 2)", x.gate(0, 2), 63);
        Check.same("gate(1, 0)", x.gate(1, 0), 1);
        Check.same("who owns what is in the second", x.owner(41, 8), 301);
        Check.same("conserve", x.conserve(), 0);
    }

    private static void callAndReturn() {
        int[][] caller = Machines.rows(Machines.o(Machines.SPLIT, 1, 3, 40), Machines.o(Machines.SEAL, 3, 2, 1),
            Machines.o(Machines.NUMBER, 0, 5), Machines.o(Machines.NUMBER, 2, 6), Machines.o(Machines.NUMBER, 7, 7),
            Machines.o(Machines.CALL, 3, 2), STOP);
        int[][] callee = Machines.rows(Machines.o(Machines.NUMBER, 0, 33), Machines.o(Machines.NUMBER, 2, 44),
            Machines.o(Machines.NUMBER, 5, 55), Machines.o(Machines.STORE, 0, 7, 1), BACK);
        UseOnceMachine x = Machines.booted(caller, NONE, callee);
        Machines.go(x, 6);
        Check.same("the depth", x.look(0), 1);
        Check.same("the module", x.look(1), 2);
        Check.same("the order", x.look(2), 0);
        Machines.registerIs("R 0 is new", x, 0, 0, 0);
        Machines.registerIs("R 1 is passed", x, 1, 1, 0, 40, 15, 0);
        Machines.registerIs("R 2 is passed", x, 2, 0, 6);
        Machines.registerIs("R 3 is kept", x, 3, 0, 0, 0, 0, 0);
        Machines.registerIs("R 7 is the gate's", x, 7, 1, 40, 48, 15, 0);
        Check.same("the gate is open", x.gate(0, 0), 2);
        Check.same("its module stays", x.gate(0, 1), 2);
        Check.same("its pattern stays", x.gate(0, 2), 1);
        Machines.go(x, 5);
        Check.same("the depth", x.look(0), 0);
        Check.same("the module", x.look(1), 0);
        Check.same("the order behind the CALL", x.look(2), 6);
        Machines.registerIs("R 0 is the answer", x, 0, 0, 33);
        Machines.registerIs("R 1 is back", x, 1, 1, 0, 40, 15, 0);
        Machines.registerIs("R 2 as it was then", x, 2, 0, 44);
        Machines.registerIs("R 3 is back", x, 3, 3, 0, 0, 0, 0);
        Machines.registerIs("R 5 is the caller's", x, 5, 0, 0);
        Machines.registerIs("R 7 is the caller's", x, 7, 0, 7, 0, 0, 0);
        Machines.wordIs("what the callee stored", x, 41, 0, 33);
        Check.same("the gate is closed", x.gate(0, 0), 1);
        Check.same("who owns what is in it", x.owner(45, 4), 300);
        Check.same("conserve", x.conserve(), 0);
        Check.same("step", x.step(1), -1);
    }

    /** Registers 1 .. 7 each hold a right; k of them are passed, the others wait in the frame. */
    private static void everyRegisterIsKeptOrPassed() {
        for (int k = 0; k <= 6; k++) {
            int[][] caller = new int[9][];
            for (int i = 1; i <= 6; i++) {
                caller[i - 1] = Machines.o(Machines.SPLIT, i, i + 1, 2);
            }
            caller[6] = Machines.o(Machines.SEAL, 7, 1, 63);
            caller[7] = Machines.o(Machines.CALL, 7, k);
            caller[8] = STOP;
            UseOnceMachine x = Machines.booted(caller, Machines.rows(BACK), NONE);
            Machines.go(x, 7);
            String before = Machines.places(x);
            Machines.go(x, 1);
            for (int i = 1; i <= 6; i++) {
                Machines.registerIs("k is " + k, x, i, i <= k ? 1 : 0);
                Check.same("the owner, k is " + k, x.owner(2 * i - 1, 2), i <= k ? i : 200 + i);
            }
            Check.same("the owner of the gate's", x.owner(47, 2), 7);
            Check.same("reach, k is " + k, x.reach(), 36 + 2 * k);
            Check.same("conserve", x.conserve(), 0);
            Machines.go(x, 1);
            Check.same("all is back, k is " + k, Machines.places(x).replace("L 0 0 8", "L 0 0 7"), before);
        }
    }

    private static void sealPassedOn() {
        UseOnceMachine x = Machines.booted(Machines.rows(Machines.o(Machines.SPLIT, 1, 2, 8), Machines.o(Machines.SEAL, 2, 1, 3),
            Machines.o(Machines.CALL, 2, 2), STOP), Machines.rows(BACK), NONE);
        Machines.go(x, 3);
        Machines.registerIs("R a comes as it is", x, 2, 3, 0, 0, 0, 0);
        Machines.go(x, 1);
        Machines.registerIs("and comes back", x, 2, 3, 0, 0, 0, 0);
        Check.same("conserve", x.conserve(), 0);
    }

    private static void sharedOnesKeepTheirCount() {
        int[][] caller = Machines.rows(Machines.o(Machines.SPLIT, 1, 2, 8), Machines.o(Machines.SPLIT, 2, 3, 8),
            Machines.o(Machines.RESTRICT, 2, 4, 1), Machines.o(Machines.FREEZE, 2), Machines.o(Machines.MOVE, 5, 2),
            Machines.o(Machines.SEAL, 3, 1, 2), Machines.o(Machines.CALL, 3, 2), STOP);
        int[][] callee = Machines.rows(Machines.o(Machines.STORE, 1, 7, 0), Machines.o(Machines.MOVE, 1, 2),
            Machines.o(Machines.DROP, 2), Machines.o(Machines.MOVE, 2, 1), Machines.o(Machines.DROP, 1), BACK);
        UseOnceMachine x = Machines.booted(caller, callee, NONE);
        Machines.go(x, 7);
        Check.same("one in a register, one in the frame", x.count(0), 2);
        Check.same("conserve", x.conserve(), 0);
        Machines.go(x, 6);
        Check.same("still two", x.count(0), 2);
        Machines.registerIs("a copy of it is as good", x, 2, 2, 8, 16, 1, 0);
        Machines.registerIs("the kept one is back", x, 5, 2, 8, 16, 1, 0);
        Machines.registerIs("one that was passed and not lent", x, 1, 0, 0);
        Machines.wordIs("is where the callee put it", x, 16, 1, 0, 8, 15, 0);
        Check.same("conserve", x.conserve(), 0);
    }

    private static void openGate() {
        UseOnceMachine x = Machines.booted(Machines.rows(Machines.o(Machines.SPLIT, 1, 2, 8), Machines.o(Machines.SEAL, 2, 1, 3),
            Machines.o(Machines.CALL, 2, 2), STOP), Machines.rows(Machines.o(Machines.CALL, 2, 0)), NONE);
        Machines.go(x, 3);
        Machines.faults("CALL of an open gate", 7, x);
    }

    /** Each call passes the seals of the gates that are still closed one register down. */
    private static void fiveFrames() {
        int[][] caller = new int[13][];
        for (int i = 1; i <= 6; i++) {
            caller[i - 1] = Machines.o(Machines.SPLIT, i, i + 1, 2);
            caller[i + 5] = Machines.o(Machines.SEAL, i, 1, 0);
        }
        caller[12] = Machines.o(Machines.CALL, 1, 6);
        int[][] callee = Machines.rows(Machines.o(Machines.STORE, 1, 7, 0), Machines.o(Machines.MOVE, 1, 2),
            Machines.o(Machines.MOVE, 2, 3), Machines.o(Machines.MOVE, 3, 4), Machines.o(Machines.MOVE, 4, 5),
            Machines.o(Machines.MOVE, 5, 6), Machines.o(Machines.CALL, 1, 6));
        UseOnceMachine x = Machines.booted(caller, callee, NONE);
        Machines.go(x, 13);
        for (int depth = 1; depth <= 4; depth++) {
            Check.same("the depth", x.look(0), depth);
            Machines.go(x, 7);
            Check.same("conserve", x.conserve(), 0);
        }
        Check.same("five frames", x.look(0), 5);
        Check.same("what was in R 7 of the first", x.owner(47, 1), 207);
        Check.same("what was in R 7 of the second", x.owner(1, 1), 217);
        Check.same("what was in R 7 of the fifth", x.owner(7, 1), 247);
        Check.same("what is in R 7", x.owner(9, 1), 7);
        Machines.go(x, 6);
        Machines.faults("a sixth frame", 7, x);
        Check.same("conserve", x.conserve(), 0);
        Check.same("undo, but for the fault", x.undo(40), 39);
        Check.same("frames taken back", x.look(0), 0);
    }

    /** R 6 counts down how deep it still goes; each module at work calls the next of the five gates. */
    private static void fiveFramesAndBack() {
        int[][] caller = new int[13][];
        for (int i = 1; i <= 5; i++) {
            caller[i - 1] = Machines.o(Machines.SPLIT, i, i < 5 ? i + 1 : 7, 4);
            caller[i + 4] = Machines.o(Machines.SEAL, i, 1, 63);
        }
        caller[10] = Machines.o(Machines.NUMBER, 6, 4);
        caller[11] = Machines.o(Machines.CALL, 1, 6);
        caller[12] = STOP;
        int[] out = Machines.o(Machines.JUMP, 16);
        int[][] callee = Machines.rows(Machines.o(Machines.ZERO, 6, 16), Machines.o(Machines.NUMBER, 0, 1), Machines.o(Machines.SUB, 6, 0),
            Machines.o(Machines.ZERO, 6, 10), Machines.o(Machines.NUMBER, 0, 2), Machines.o(Machines.LESS, 6, 0, 12),
            Machines.o(Machines.NUMBER, 0, 3), Machines.o(Machines.LESS, 6, 0, 14), Machines.o(Machines.CALL, 2, 6), out,
            Machines.o(Machines.CALL, 5, 6), out, Machines.o(Machines.CALL, 4, 6), out, Machines.o(Machines.CALL, 3, 6), out, BACK);
        UseOnceMachine x = Machines.booted(caller, callee, NONE);
        int deepest = 0;
        for (int i = 0; i < 100 && x.step(1) == 0; i++) {
            deepest = Math.max(deepest, x.look(0));
            Check.same("conserve", x.conserve(), 0);
        }
        Check.same("halted", x.look(4), -1);
        Check.same("deepest", deepest, 5);
        Check.same("back again", x.look(0), 0);
        for (int i = 1; i <= 5; i++) {
            Machines.registerIs("the seals are back", x, i, 3, 0, 0, 0, i - 1);
            Check.same("the gates are closed", x.gate(i - 1, 0), 1);
        }
        Machines.registerIs("the caller's R 7", x, 7, 1, 20, 48, 15, 0);
    }

    /** R 1 is a right and lent, R 2 a number and lent, R 3 a right and passed, R 4 a number; k is 4. */
    private static UseOnceMachine called(int[]... callee) {
        int[][] caller = Machines.rows(Machines.o(Machines.SPLIT, 1, 3, 8), Machines.o(Machines.SPLIT, 3, 5, 8),
            Machines.o(Machines.SPLIT, 5, 6, 8), Machines.o(Machines.NUMBER, 2, 3), Machines.o(Machines.NUMBER, 4, 5),
            Machines.o(Machines.SEAL, 5, 1, 1 + 2 + 16 + 32), Machines.o(Machines.CALL, 5, 4), STOP);
        UseOnceMachine x = Machines.booted(caller, callee, NONE);
        Machines.go(x, 7);
        return x;
    }

    private static final int[] PUT = Machines.o(Machines.STORE, 3, 7, 0);

    private static void returnsWell(String what, int[]... callee) {
        UseOnceMachine x = called(callee);
        Machines.go(x, callee.length);
        Check.same(what + ": the depth", x.look(0), 0);
        Check.same(what + ": conserve", x.conserve(), 0);
    }

    private static void returnsBadly(String what, int[]... callee) {
        UseOnceMachine x = called(callee);
        Machines.go(x, callee.length - 1);
        Machines.faults(what, 8, x);
        Check.same(what + ": the depth", x.look(0), 1);
        Check.same(what + ": conserve", x.conserve(), 0);
    }

    private static void goodReturns() {
        returnsWell("what is passed is put away", PUT, BACK);
        returnsWell("any number where one was lent", PUT, Machines.o(Machines.NUMBER, 2, 99), BACK);
        returnsWell("any number elsewhere", PUT, Machines.o(Machines.NUMBER, 3, 9), Machines.o(Machines.NUMBER, 6, 9), BACK);
        returnsWell("cut and joined", PUT, Machines.o(Machines.SPLIT, 1, 2, 3), Machines.o(Machines.MERGE, 1, 2),
            Machines.o(Machines.RESTRICT, 7, 2, 3), Machines.o(Machines.MERGE, 7, 2), BACK);
    }

    private static void badReturns() {
        Machines.lastFaults("RETURN at depth 0", 8, BACK);
        returnsBadly("what is passed is still there", BACK);
        returnsBadly("R 0 holds a right", Machines.o(Machines.MOVE, 0, 3), BACK);
        returnsBadly("what is lent is away", PUT, Machines.o(Machines.STORE, 1, 7, 1), BACK);
        returnsBadly("what is lent is cut", PUT, Machines.o(Machines.SPLIT, 1, 6, 3), Machines.o(Machines.STORE, 6, 7, 1), BACK);
        returnsBadly("what is lent has fewer rights", PUT, Machines.o(Machines.RESTRICT, 1, 6, 7), Machines.o(Machines.STORE, 6, 7, 1), BACK);
        returnsBadly("what is lent is more", Machines.o(Machines.MERGE, 1, 3), BACK);
        returnsBadly("another right where one was lent", Machines.o(Machines.STORE, 1, 7, 0), Machines.o(Machines.MOVE, 1, 3), BACK);
        returnsBadly("what is lent is sealed", PUT, Machines.o(Machines.SEAL, 1, 0, 0), BACK);
        returnsBadly("a right where a number was lent", Machines.o(Machines.MOVE, 2, 3), BACK);
        returnsBadly("a right above k, in the pattern", Machines.o(Machines.MOVE, 5, 3), BACK);
        returnsBadly("a right above k, the last", Machines.o(Machines.MOVE, 6, 3), BACK);
        returnsBadly("a right in R 4, passed and not lent", Machines.o(Machines.MOVE, 4, 3), BACK);
        returnsBadly("R 7 is away", PUT, Machines.o(Machines.STORE, 7, 1, 0), BACK);
        returnsBadly("R 7 is cut", PUT, Machines.o(Machines.SPLIT, 7, 6, 3), Machines.o(Machines.STORE, 6, 1, 0), BACK);
        returnsBadly("R 7 has fewer rights", PUT, Machines.o(Machines.RESTRICT, 7, 6, 3), Machines.o(Machines.STORE, 6, 1, 0), BACK);
        returnsBadly("R 7 is another", Machines.o(Machines.STORE, 7, 1, 0), Machines.o(Machines.MOVE, 7, 3), BACK);
        otherKinds();
    }

    /** A right to read alone in the gate, and one lent: shared is not the same. */
    private static void otherKinds() {
        int[][] caller = Machines.rows(Machines.o(Machines.SPLIT, 1, 2, 8), Machines.o(Machines.RESTRICT, 1, 3, 1),
            Machines.o(Machines.RESTRICT, 2, 4, 1), Machines.o(Machines.SEAL, 2, 1, 1), Machines.o(Machines.CALL, 2, 1));
        UseOnceMachine x = Machines.booted(caller, Machines.rows(Machines.o(Machines.FREEZE, 7), BACK), NONE);
        Machines.go(x, 6);
        Machines.faults("R 7 is shared", 8, x);
        x = Machines.booted(caller, Machines.rows(Machines.o(Machines.FREEZE, 1), BACK), NONE);
        Machines.go(x, 6);
        Machines.faults("what is lent is shared", 8, x);
        x = Machines.booted(caller, Machines.rows(Machines.o(Machines.FREEZE, 1), Machines.o(Machines.THAW, 1), BACK), NONE);
        Machines.go(x, 8);
        Check.same("thawed again", x.look(0), 0);
        int[][] lendsShared = Machines.rows(Machines.o(Machines.SPLIT, 1, 2, 8), Machines.o(Machines.RESTRICT, 1, 3, 1),
            Machines.o(Machines.FREEZE, 1), Machines.o(Machines.RESTRICT, 2, 4, 1), Machines.o(Machines.SEAL, 2, 1, 1),
            Machines.o(Machines.CALL, 2, 1));
        x = Machines.booted(lendsShared, Machines.rows(Machines.o(Machines.FREEZE, 7), Machines.o(Machines.THAW, 1),
            Machines.o(Machines.THAW, 7), Machines.o(Machines.FREEZE, 7), Machines.o(Machines.FREEZE, 1),
            Machines.o(Machines.THAW, 7), BACK), NONE);
        Machines.go(x, 12);
        Machines.faults("what is lent has another cell", 8, x);
    }
}
