/** Promise 4: CALL and RETURN, the frames, what is lent, and what a return needs. */
public final class Promise04CallTest extends Machines {
    private static final int[] PUT = o(STORE, 3, 7, 0);

    public static void main(String[] args) {
        Sentence.holds("4.80", "R a is a seal: its gate's capability comes to the new R 7, which is OPEN then",
            Promise04CallTest::gateOpens);
        Sentence.holds("4.81", "the registers 1 .. k (0 .. 6) come as they are, all others are 0;", Promise04CallTest::everyK);
        Sentence.holds("4.82", "what was in the others before (R a among them, if it is one) is kept in a new FRAME",
            Promise04CallTest::sealKeptOrPassed);
        Sentence.holds("4.83", "with the order behind this one, the module, the gate, k", Promise04CallTest::frames);
        Sentence.holds("4.84", "the depth is 1 more, the gate's module runs from order 0.", Promise04CallTest::moduleRuns);
        Sentence.holds("4.85", "the frame's registers come back, but R 0 (the number that it holds then), and 1 .. k "
            + "(what they hold then);", Promise04CallTest::comesBack);
        Sentence.holds("4.86", "R 7 as it is then goes back into the gate, which is not open any more;", Promise04CallTest::gateCloses);
        Sentence.holds("4.87", "the depth is 1 less, the frame's module goes on.", Promise04CallTest::fiveFramesAndBack);
        Sentence.holds("4.88", "8 RETURN: the depth is 0;", Promise04CallTest::depthIsZero);
        Sentence.holds("4.89", "R 0 holds none but a number;", Promise04CallTest::fullR0);
        Sentence.holds("4.90", "a lent register's capability or seal is not there again with the same range, rights, kind and cell or gate",
            Promise04CallTest::lentIsNotThere);
        Sentence.holds("4.91", "(where a number was lent, any number);", Promise04CallTest::lentNumber);
        Sentence.holds("4.92", "R 7 has not the gate's range and rights, exclusive;", Promise04CallTest::wrongR7);
        Sentence.holds("4.93", "some other register, 1 .. 6, not lent or above k, holds a capability or seal.",
            Promise04CallTest::otherIsFull);
        Sentence.holds("4.94", "a note of what is in the gate and the lent registers up to k", Promise04CallTest::everyPatternAndK);
        Sentence.holds("4.95", "Of a shared one it copies it", Promise04CallTest::callsKeepCounts);
        Sentence.holds("4.96", "none is ever lost or doubled;", Promise04CallTest::wordsStay);
        Check.end();
    }

    private static void gateOpens() {
        Used x = ran(o(SPLIT, 1, 2, 40), o(RESTRICT, 2, 3, 5), o(SEAL, 2, 2, 63), o(CALL, 2, 0));
        registerIs("R 7 is the gate's", x, 7, 1, 40, 48, 5, 0);
        Check.same("the gate is open", x.gate(0, 0), 2);
        Check.same("its module stays", x.gate(0, 1), 2);
        Check.same("its pattern stays", x.gate(0, 2), 63);
        Check.same("who owns what was in it", x.owner(40, 1), 7);
        Check.same("conserve", x.conserve(), 0);
        x = ran(o(NUMBER, 7, 9), o(SPLIT, 1, 2, 1), o(SEAL, 1, 1, 0), o(CALL, 1, 6));
        registerIs("one word, over what R 7 had", x, 7, 1, 0, 1, 15, 0);
    }

    /** Registers 1 .. 6 each hold a right, R 7 the seal, R 0 a number; k of them are passed, the others wait in the frame. */
    private static void everyK() {
        for (int k = 0; k <= 6; k++) {
            int[][] caller = joined(sevenParts(), o(SEAL, 7, 1, 63), o(NUMBER, 0, 5), o(CALL, 7, k), STOP);
            Used x = booted(caller, rows(BACK), NO_CODE);
            go(x, 9);
            registerIs("R 0, k is " + k, x, 0, 0, 0, 0, 0, 0);
            for (int i = 1; i <= 6; i++) {
                if (i <= k) {
                    registerIs("k is " + k, x, i, 1, 2 * i - 2, 2 * i, 15, 0);
                } else {
                    registerIs("k is " + k, x, i, 0, 0, 0, 0, 0);
                }
                Check.same("the owner, k is " + k, x.owner(2 * i - 1, 2), i <= k ? i : 200 + i);
            }
            registerIs("R 7, k is " + k, x, 7, 1, 12, 48, 15, 0);
            Check.same("reach, k is " + k, x.reach(), 36 + 2 * k);
            Check.same("conserve", x.conserve(), 0);
            go(x, 1);
            for (int i = 1; i <= 6; i++) {
                registerIs("back, k is " + k, x, i, 1, 2 * i - 2, 2 * i, 15, 0);
            }
            registerIs("back, k is " + k, x, 7, 3, 0, 0, 0, 0);
            registerIs("back, k is " + k, x, 0, 0, 0);
            Check.same("conserve", x.conserve(), 0);
        }
        Used x = ran(CUT, SEALED, o(NUMBER, 5, 5), o(NUMBER, 6, 6), o(CALL, 2, 5));
        registerIs("a number up to k", x, 5, 0, 5);
        registerIs("a number above k", x, 6, 0, 0);
    }

    /** The seal is in each register in turn, and k just below it, or just so that it is passed. */
    private static void sealKeptOrPassed() {
        for (int r = 1; r <= 7; r++) {
            Used x = sealIn(r, r - 1);
            if (r < 7) {
                registerIs("R a is kept", x, r, 0, 0, 0, 0, 0);
            }
            go(x, 1);
            registerIs("R a comes back", x, r, 3, 0, 0, 0, 0);
        }
        for (int r = 1; r <= 6; r++) {
            Used x = sealIn(r, r);
            registerIs("R a comes as it is", x, r, 3, 0, 0, 0, 0);
            go(x, 1);
            registerIs("R a is back", x, r, 3, 0, 0, 0, 0);
            Check.same("conserve", x.conserve(), 0);
        }
    }

    /** In a call by the seal in R r, which lends all that is passed. */
    private static Used sealIn(int r, int k) {
        int[][] put = rows(o(MOVE, 0, 1), o(SPLIT, 0, r, 16), o(SEAL, r, 1, 63), o(MOVE, r == 7 ? 6 : 7, 0));
        Used x = booted(joined(put, o(CALL, r, k), STOP), rows(BACK), NO_CODE);
        go(x, put.length + 1);
        return x;
    }

    private static void frames() {
        int[][] caller = rows(o(SPLIT, 1, 2, 8), o(SPLIT, 2, 3, 8), o(SPLIT, 3, 4, 8), o(SEAL, 2, 1, 63), o(SEAL, 3, 2, 63),
            o(JUMP, 20), STOP, STOP, STOP, STOP, STOP, STOP, STOP, STOP, STOP, STOP, STOP, STOP, STOP, STOP, o(NUMBER, 6, 6),
            o(CALL, 2, 3), STOP);
        int[][] first = rows(o(NUMBER, 5, 55), o(CALL, 3, 0), o(NUMBER, 0, 11), BACK);
        int[][] second = rows(o(NUMBER, 0, 22), BACK);
        Used x = booted(caller, first, second);
        go(x, 8);
        looksAre("in the first", x, 1, 1, 0);
        go(x, 2);
        looksAre("in the second", x, 2, 2, 0);
        Check.same("both gates are open", x.gate(0, 0) + x.gate(1, 0), 4);
        Check.same("the first frame has R 4 of the caller", x.owner(47, 1), 204);
        Check.same("the second frame has R 1", x.owner(0, 1), 211);
        Check.same("the second frame has R 7", x.owner(8, 1), 217);
        go(x, 2);
        looksAre("the order behind the CALL in the first", x, 1, 1, 2);
        registerIs("R 5 of the first", x, 5, 0, 55);
        registerIs("R 0 is what the second answered", x, 0, 0, 22);
        Check.same("its gate", x.gate(1, 0), 1);
        Check.same("the other gate", x.gate(0, 0), 2);
        go(x, 2);
        looksAre("the order behind the CALL in the caller", x, 0, 0, 22);
        registerIs("R 6 of the caller", x, 6, 0, 6);
        registerIs("R 0 is what the first answered", x, 0, 0, 11);
        Check.same("its gate", x.gate(0, 0), 1);
        Check.same("conserve", x.conserve(), 0);
    }

    private static void moduleRuns() {
        for (int m = 0; m <= 2; m++) {
            Used x = ran(CUT, o(SEAL, 2, m, 0), o(CALL, 2, 0));
            looksAre("a gate of module " + m, x, 1, m, 0, 3, 0);
        }
        Check.same("the deepest", fiveDeep().look(0), 5);
    }

    private static void comesBack() {
        int[][] caller = rows(o(SPLIT, 1, 3, 40), o(SEAL, 3, 2, 1), o(NUMBER, 0, 5), o(NUMBER, 2, 6), o(NUMBER, 6, 8), o(NUMBER, 7, 7),
            o(CALL, 3, 2), STOP);
        int[][] callee = rows(o(NUMBER, 0, LEAST), o(NUMBER, 2, 44), o(NUMBER, 3, 45), o(NUMBER, 6, 46), o(STORE, 0, 7, 7), BACK);
        Used x = booted(caller, NO_CODE, callee);
        go(x, 13);
        registerIs("R 0 is the answer", x, 0, 0, LEAST, 0, 0, 0);
        registerIs("R 1 is back", x, 1, 1, 0, 40, 15, 0);
        registerIs("R 2 as it was then", x, 2, 0, 44);
        registerIs("R 3 is the caller's", x, 3, 3, 0, 0, 0, 0);
        registerIs("R 6 is the caller's", x, 6, 0, 8);
        registerIs("R 7 is the caller's", x, 7, 0, 7, 0, 0, 0);
        wordIs("what the callee stored", x, 47, 0, LEAST);
        Check.same("step", x.step(1), -1);
    }

    private static void gateCloses() {
        Used x = booted(rows(o(SPLIT, 1, 2, 40), o(SEAL, 2, 1, 5), o(CALL, 2, 0), o(CALL, 2, 0), STOP),
            rows(o(SPLIT, 7, 1, 3), o(MERGE, 1, 7), o(MOVE, 7, 1), BACK), NO_CODE);
        for (int i = 0; i < 2; i++) {
            go(x, i == 0 ? 3 : 1);
            Check.same("open", x.gate(0, 0), 2);
            go(x, 4);
            Check.same("not open any more", x.gate(0, 0), 1);
            Check.same("its module", x.gate(0, 1), 1);
            Check.same("its pattern", x.gate(0, 2), 5);
            Check.same("who owns what is in it", x.owner(45, 4), 300);
            registerIs("R 7 is the caller's", x, 7, 0, 0, 0, 0, 0);
        }
        Check.same("conserve", x.conserve(), 0);
    }

    /** R 6 counts down how deep it still goes; each module at work calls the next of the five gates. */
    private static void fiveFramesAndBack() {
        int[][] caller = new int[13][];
        for (int i = 1; i <= 5; i++) {
            caller[i - 1] = o(SPLIT, i, i < 5 ? i + 1 : 7, 4);
            caller[i + 4] = o(SEAL, i, 1, 63);
        }
        caller[10] = o(NUMBER, 6, 4);
        caller[11] = o(CALL, 1, 6);
        caller[12] = STOP;
        int[] out = o(JUMP, 16);
        int[][] callee = rows(o(ZERO, 6, 16), o(NUMBER, 0, 1), o(SUB, 6, 0), o(ZERO, 6, 10), o(NUMBER, 0, 2), o(LESS, 6, 0, 12),
            o(NUMBER, 0, 3), o(LESS, 6, 0, 14), o(CALL, 2, 6), out, o(CALL, 5, 6), out, o(CALL, 4, 6), out, o(CALL, 3, 6), out, BACK);
        Used x = booted(caller, callee, NO_CODE);
        int deepest = 0;
        for (int i = 0; i < 100 && x.step(1) == 0; i++) {
            deepest = Math.max(deepest, x.look(0));
            Check.same("conserve", x.conserve(), 0);
        }
        Check.same("deepest", deepest, 5);
        looksAre("back again and halted", x, 0, 0);
        Check.same("halted", x.look(4), -1);
        for (int i = 1; i <= 5; i++) {
            registerIs("the seals are back", x, i, 3, 0, 0, 0, i - 1);
            Check.same("the gates are closed", x.gate(i - 1, 0), 1);
        }
        registerIs("the caller's R 7", x, 7, 1, 20, 48, 15, 0);
    }

    private static void depthIsZero() {
        lastFaults("at boot", 8, BACK);
        int[][] caller = rows(CUT, SEALED, o(CALL, 2, 0), BACK);
        faults("after a call has come back", 8, after(() -> booted(caller, rows(BACK), NO_CODE), x -> go(x, 4)));
        Check.same("at depth 1", booted(rows(CUT, SEALED, o(CALL, 2, 0)), rows(BACK), NO_CODE).step(4), 0);
    }

    /** R 1 is a right and lent, R 2 a number and lent, R 3 a right and passed, R 4 a number; k is 4, and the pattern has 5 and 6 too. */
    private static Used called(int[]... callee) {
        int[][] caller = rows(o(SPLIT, 1, 3, 8), o(SPLIT, 3, 5, 8), o(SPLIT, 5, 6, 8), o(NUMBER, 2, 3), o(NUMBER, 4, 5),
            o(SEAL, 5, 1, 1 + 2 + 16 + 32), o(CALL, 5, 4), STOP);
        Used x = booted(caller, callee, NO_CODE);
        go(x, 7);
        return x;
    }

    private static void returnsWell(String what, int[]... callee) {
        Used x = called(callee);
        go(x, callee.length);
        Check.same(what + ": the depth", x.look(0), 0);
        Check.same(what + ": conserve", x.conserve(), 0);
    }

    private static void returnsBadly(String what, int[]... callee) {
        faults(what, 8, after(() -> called(callee), x -> go(x, callee.length - 1)));
    }

    private static void fullR0() {
        returnsBadly("an exclusive one", o(MOVE, 0, 3), BACK);
        returnsBadly("a seal", o(SEAL, 3, 1, 0), o(MOVE, 0, 3), BACK);
        returnsBadly("a shared one", o(RESTRICT, 3, 0, 14), PUT, o(FREEZE, 0), BACK);
        returnsWell("the least number", PUT, o(NUMBER, 0, LEAST), BACK);
    }

    private static void lentIsNotThere() {
        returnsWell("as it was", PUT, BACK);
        returnsWell("away and there again", PUT, o(STORE, 1, 7, 1), o(LOAD, 1, 7, 1), BACK);
        returnsWell("cut and joined", PUT, o(SPLIT, 1, 2, 3), o(MERGE, 1, 2), o(RESTRICT, 1, 2, 3), o(MERGE, 1, 2), BACK);
        returnsBadly("it is away", PUT, o(STORE, 1, 7, 1), BACK);
        returnsBadly("it is elsewhere", PUT, o(MOVE, 2, 1), BACK);
        returnsBadly("its end is less", PUT, o(SPLIT, 1, 6, 7), o(STORE, 6, 7, 1), BACK);
        returnsBadly("its from is more", PUT, o(SPLIT, 1, 6, 1), o(STORE, 1, 7, 1), o(MOVE, 1, 6), BACK);
        returnsBadly("it has fewer rights", PUT, o(RESTRICT, 1, 6, 7), o(STORE, 6, 7, 1), BACK);
        returnsBadly("it is more", o(MERGE, 1, 3), BACK);
        returnsBadly("another", o(STORE, 1, 7, 0), o(MOVE, 1, 3), BACK);
        returnsBadly("it is sealed", PUT, o(SEAL, 1, 0, 0), BACK);
        lentShared();
        lentSeal();
    }

    /** A right to read alone is lent, exclusive or shared. */
    private static void lentShared() {
        int[][] caller = rows(o(SPLIT, 1, 2, 8), o(RESTRICT, 1, 3, 1), o(RESTRICT, 2, 4, 1), o(SEAL, 2, 1, 1), o(CALL, 2, 1), STOP);
        faults("it is shared", 8, after(() -> booted(caller, rows(o(FREEZE, 1), BACK), NO_CODE), x -> go(x, 6)));
        Check.same("shared and thawed", booted(caller, rows(o(FREEZE, 1), o(THAW, 1), BACK), NO_CODE).step(9), -1);
        int[][] lends = rows(o(SPLIT, 1, 2, 8), o(RESTRICT, 1, 3, 1), o(FREEZE, 1), o(RESTRICT, 2, 4, 1), o(SEAL, 2, 1, 1),
            o(CALL, 2, 1), STOP);
        faults("it is thawed", 8, after(() -> booted(lends, rows(o(THAW, 1), BACK), NO_CODE), x -> go(x, 7)));
        Check.same("a copy of it", booted(lends, rows(o(MOVE, 2, 1), o(DROP, 1), o(MOVE, 1, 2), o(DROP, 2), BACK), NO_CODE).step(12), -1);
        Check.same("thawed and in its cell again", booted(lends, rows(o(THAW, 1), o(FREEZE, 1), BACK), NO_CODE).step(10), -1);
        int[][] otherCell = rows(o(THAW, 1), o(FREEZE, 7), o(FREEZE, 1), o(THAW, 7), BACK);
        faults("it has another cell", 8, after(() -> booted(lends, otherCell, NO_CODE), x -> go(x, 10)));
    }

    /** R 1 is the seal of the gate 1, and lent; R 3 that of the gate 2, and passed. */
    private static void lentSeal() {
        int[][] caller = rows(o(SPLIT, 1, 2, 8), o(SPLIT, 2, 3, 8), o(SPLIT, 3, 4, 8), o(SEAL, 2, 1, 1), o(SEAL, 1, 1, 0), o(SEAL, 3, 1, 0),
            o(CALL, 2, 3), STOP);
        int[] putOwn = o(STORE, 2, 7, 0);
        Check.same("the same seal", booted(caller, rows(putOwn, o(STORE, 3, 7, 1), BACK), NO_CODE).step(11), -1);
        faults("the seal of another gate", 8,
            after(() -> booted(caller, rows(putOwn, o(STORE, 1, 7, 1), o(MOVE, 1, 3), BACK), NO_CODE), x -> go(x, 10)));
        faults("no seal", 8,
            after(() -> booted(caller, rows(putOwn, o(STORE, 3, 7, 1), o(STORE, 1, 7, 2), BACK), NO_CODE), x -> go(x, 10)));
    }

    private static void lentNumber() {
        for (int n : new int[] {0, 3, 99, LEAST, MOST}) {
            returnsWell("R 2 is " + n, PUT, o(NUMBER, 2, n), BACK);
        }
        returnsBadly("an exclusive one there", o(MOVE, 2, 3), BACK);
        returnsBadly("a seal there", o(SEAL, 3, 1, 0), o(MOVE, 2, 3), BACK);
        returnsBadly("a shared one there", o(RESTRICT, 3, 2, 14), PUT, o(FREEZE, 2), BACK);
    }

    private static void wrongR7() {
        returnsWell("as it was", PUT, BACK);
        returnsWell("cut and joined", PUT, o(RESTRICT, 7, 2, 3), o(MERGE, 7, 2), o(SPLIT, 7, 2, 1), o(MERGE, 2, 7), o(MOVE, 7, 2), BACK);
        returnsBadly("it is away", PUT, o(STORE, 7, 1, 0), BACK);
        returnsBadly("a number is there", PUT, o(STORE, 7, 1, 0), o(NUMBER, 7, 1), BACK);
        returnsBadly("its end is less", PUT, o(SPLIT, 7, 6, 7), o(STORE, 6, 1, 0), BACK);
        returnsBadly("its from is more", PUT, o(SPLIT, 7, 6, 1), o(STORE, 7, 1, 0), o(MOVE, 7, 6), BACK);
        returnsBadly("it has fewer rights", PUT, o(RESTRICT, 7, 6, 3), o(STORE, 6, 1, 0), BACK);
        returnsBadly("it is another", o(STORE, 7, 1, 0), o(MOVE, 7, 3), BACK);
        returnsBadly("it is more", o(MERGE, 7, 3), BACK);
        returnsBadly("it is sealed", PUT, o(SEAL, 7, 1, 0), BACK);
        int[][] caller = rows(o(SPLIT, 1, 2, 8), o(RESTRICT, 2, 4, 1), o(SEAL, 2, 1, 0), o(CALL, 2, 0), STOP);
        faults("it is shared", 8, after(() -> booted(caller, rows(o(FREEZE, 7), BACK), NO_CODE), x -> go(x, 5)));
        Check.same("shared and thawed", booted(caller, rows(o(FREEZE, 7), o(THAW, 7), BACK), NO_CODE).step(9), -1);
    }

    private static void otherIsFull() {
        returnsWell("any numbers", PUT, o(NUMBER, 3, 9), o(NUMBER, 4, LEAST), o(NUMBER, 5, 1), o(NUMBER, 6, MOST), BACK);
        returnsBadly("what was passed is still there", BACK);
        returnsBadly("in R 4, passed and not lent", o(MOVE, 4, 3), BACK);
        returnsBadly("above k, in the pattern", o(MOVE, 5, 3), BACK);
        returnsBadly("above k, the last", o(MOVE, 6, 3), BACK);
        returnsBadly("a seal above k", o(SEAL, 3, 1, 0), o(MOVE, 6, 3), BACK);
        returnsBadly("a shared one above k", o(RESTRICT, 3, 6, 14), PUT, o(FREEZE, 6), BACK);
    }

    /** R 1 .. R 6 hold rights. The called module puts them all away that are not lent, or all but one of these. */
    private static void everyPatternAndK() {
        for (int p = 0; p <= 63; p++) {
            for (int k = 0; k <= 6; k++) {
                int lent = p & (1 << k) - 1;
                Check.same("p " + p + ", k " + k, away(p, k, lent).look(4), -1);
                int more = 1 + (p + k) % 6;
                if (more <= k) {
                    Check.same("p " + p + ", k " + k + ", R " + more + " the other way", away(p, k, lent ^ 1 << more - 1).look(4), 8);
                }
            }
        }
    }

    /** What a call with pattern p and k comes to if the registers in stay are left as they are, others up to k put away. */
    private static Used away(int p, int k, int stay) {
        int[][] callee = NO_CODE;
        for (int r = 1; r <= k; r++) {
            callee = (stay >> r - 1 & 1) == 1 ? callee : joined(callee, o(STORE, r, 7, r));
        }
        Used x = booted(joined(sevenParts(), o(SEAL, 7, 1, p), o(CALL, 7, k), STOP), joined(callee, BACK), NO_CODE);
        x.step(30);
        Check.same("conserve", x.conserve(), 0);
        return x;
    }

    /** Shared capabilities in registers that are passed or kept are carried, not copied. */
    private static void callsKeepCounts() {
        int[][] caller = rows(o(SPLIT, 1, 2, 8), o(SPLIT, 2, 3, 8), o(RESTRICT, 2, 4, 1), o(FREEZE, 2), o(MOVE, 5, 2), o(SEAL, 3, 1, 2),
            o(CALL, 3, 2), STOP);
        int[][] callee = rows(o(STORE, 1, 7, 0), o(MOVE, 1, 2), o(DROP, 2), o(MOVE, 2, 1), o(DROP, 1), BACK);
        Used x = booted(caller, callee, NO_CODE);
        go(x, 7);
        Check.same("one in a register, one in the frame", x.count(0), 2);
        Check.same("conserve", x.conserve(), 0);
        go(x, 6);
        Check.same("still two", x.count(0), 2);
        registerIs("a copy of it is as good", x, 2, 2, 8, 16, 1, 0);
        registerIs("the kept one is back", x, 5, 2, 8, 16, 1, 0);
        registerIs("one that was passed and not lent", x, 1, 0, 0);
        wordIs("is where the callee put it", x, 16, 1, 0, 8, 15, 0);
        Check.same("conserve", x.conserve(), 0);
    }

    /** A call and a return touch registers and a gate alone: the first and the last word stay as they are, at each depth. */
    private static void wordsStay() {
        int[][] caller = rows(CUT, o(SPLIT, 2, 3, 31), o(STORE, 3, 1, 0), o(NUMBER, 4, -7), o(STORE, 4, 1, 15), o(SEAL, 2, 1, 0),
            o(CALL, 2, 0), STOP);
        Used x = booted(caller, rows(BACK), NO_CODE);
        go(x, 6);
        for (int i = 0; i < 3; i++) {
            wordIs("the first word", x, 0, 1, 47, 48, 15, 0);
            wordIs("a number", x, 15, 0, -7, 0, 0, 0);
            Check.same("who owns the last word", x.owner(47, 1), 100);
            Check.same("conserve", x.conserve(), 0);
            Check.same("step", x.step(1), i < 2 ? 0 : -1);
        }
        x = fiveDeep();
        for (int g = 0; g < 4; g++) {
            wordIs("the seals that were put away on the way down", x, 2 * g, 3, 0, 0, 0, g);
        }
    }
}
