/** Promise 4: what each order does that stays in its module, at its edges. */
public final class Promise04OrdersTest extends Machines {
    public static void main(String[] args) {
        Sentence.holds("4.10", "0 NUMBER a n: R a := n.", Promise04OrdersTest::number);
        Sentence.holds("4.11", "1 MOVE a b: R a := R b.", Promise04OrdersTest::move);
        Sentence.holds("4.12", "2 ADD a b: R a := R a + R b.", Promise04OrdersTest::addWraps);
        Sentence.holds("4.13", "3 SUB a b: R a - R b (both wrap).", Promise04OrdersTest::subWraps);
        Sentence.holds("4.14", "R a keeps from .. from + n - 1, R b gets the others, with the same rights.", Promise04OrdersTest::split);
        Sentence.holds("4.15", "a RANGE of words from .. end - 1 (at least one)", Promise04OrdersTest::rangeOfOneWord);
        Sentence.holds("4.16", "with the same rights, R b's range right behind R a's or right before it: R a gets both ranges;",
            Promise04OrdersTest::mergeRanges);
        Sentence.holds("4.17", "or with the same range, and no right in both: R a gets the rights of both; R b := 0.",
            Promise04OrdersTest::mergeRights);
        Sentence.holds("4.18", "the exclusive R a keeps its rights that are in m, R b gets its range with the others.",
            Promise04OrdersTest::restrict);
        Sentence.holds("4.19", "RIGHTS (a set of 1 read, 2 write, 4 run, 8 send, not empty)", Promise04OrdersTest::everySetOfRights);
        Sentence.holds("4.20", "is shared with the lowest cell whose count is 0, that being 1 then.", Promise04OrdersTest::lowestCell);
        Sentence.holds("4.21", "SHARED with a cell (then the rights are read alone)", Promise04OrdersTest::sharedRights);
        Sentence.holds("4.22", "8 THAW a: the shared R a, its cell's count being 1, is exclusive; the count 0.", Promise04OrdersTest::thaw);
        Sentence.holds("4.23", "9 DROP a: the shared R a, its cell's count being above 1: that is 1 less, R a := 0.",
            Promise04OrdersTest::drop);
        Sentence.holds("4.24", "10 LOAD a b n: R a := the word from + n of the capability R b", Promise04OrdersTest::load);
        Sentence.holds("4.25", "(a TAKING, if that holds a capability or seal).", Promise04OrdersTest::taking);
        Sentence.holds("4.26", "11 STORE a b n: the word from + n of the exclusive R b := R a.", Promise04OrdersTest::store);
        Sentence.holds("4.27", "12 JUMP n: on at order n.", Promise04OrdersTest::jump);
        Sentence.holds("4.28", "13 ZERO a n: if the number R a is 0, on at n.", Promise04OrdersTest::zero);
        Sentence.holds("4.29", "14 LESS a b n: if the number R a is less than the number R b, on at n.", Promise04OrdersTest::less);
        Sentence.holds("4.30", "the exclusive R a goes into the lowest gate that is empty, with the module m",
            Promise04OrdersTest::lowestGate);
        Sentence.holds("4.31", "the PATTERN p (0 .. 63: a set of registers 1 .. 6, bit k - 1 for k, that are LENT); R a := the seal of it.",
            Promise04OrdersTest::everyPattern);
        Sentence.holds("4.32", "18 HALT.", Promise04OrdersTest::halt);
        Sentence.holds("4.33", ":= of a number copies it.", Promise04OrdersTest::numbersAreCopied);
        Sentence.holds("4.34", "Of an exclusive capability or a seal it MOVES it: where it was is 0 then; "
            + "also TAKING an exclusive one or a seal.", Promise04OrdersTest::rightsAreMoved);
        Sentence.holds("4.35", "Of a shared one it copies it, and its cell's count is 1 more.", Promise04OrdersTest::sharedAreCopied);
        Sentence.holds("4.36", "a CAPABILITY in them is exclusive or shared, if nothing else is said",
            Promise04OrdersTest::sharedIsAWay);
        Check.end();
    }

    private static void number() {
        for (int n : new int[] {0, 1, -1, LEAST, MOST}) {
            for (int r : new int[] {0, 2, 7}) {
                registerIs("NUMBER " + n, ran(o(NUMBER, r, 5), o(NUMBER, r, n)), r, 0, n, 0, 0, 0);
            }
        }
    }

    private static void move() {
        Used x = ran(o(NUMBER, 0, -5), o(MOVE, 7, 0), o(NUMBER, 0, 6), o(MOVE, 2, 7), o(MOVE, 2, 2));
        registerIs("from the first register to the last", x, 7, 0, -5, 0, 0, 0);
        registerIs("the first", x, 0, 0, 6);
        registerIs("a number to itself", x, 2, 0, -5);
        x = ran(o(MOVE, 0, 1), o(MOVE, 7, 0));
        registerIs("a right by the first register to the last", x, 7, 1, 0, 48, 15, 0);
        Check.same("conserve", x.conserve(), 0);
    }

    private static void addIs(String what, int operation, int left, int right, int due) {
        Used x = ran(o(NUMBER, 2, left), o(NUMBER, 3, right), o(operation, 2, 3));
        registerIs(what, x, 2, 0, due, 0, 0, 0);
        registerIs(what + ": R b stays", x, 3, 0, right, 0, 0, 0);
    }

    private static void addWraps() {
        addIs("plain", ADD, 5, -7, -2);
        addIs("up to the greatest", ADD, MOST - 1, 1, MOST);
        addIs("over the greatest", ADD, MOST, 1, LEAST);
        addIs("twice the greatest", ADD, MOST, MOST, -2);
        addIs("down to the least", ADD, LEAST + 1, -1, LEAST);
        addIs("below the least", ADD, LEAST, -1, MOST);
        addIs("twice the least", ADD, LEAST, LEAST, 0);
        addIs("least and greatest", ADD, LEAST, MOST, -1);
        registerIs("with itself", ran(o(NUMBER, 3, 1 << 30), o(ADD, 3, 3)), 3, 0, LEAST);
    }

    private static void subWraps() {
        addIs("plain", SUB, 5, 7, -2);
        addIs("down to the least", SUB, LEAST + 1, 1, LEAST);
        addIs("below the least", SUB, LEAST, 1, MOST);
        addIs("up to the greatest", SUB, MOST - 1, -1, MOST);
        addIs("over the greatest", SUB, MOST, -1, LEAST);
        addIs("0 less the least", SUB, 0, LEAST, LEAST);
        addIs("-1 less the least", SUB, -1, LEAST, MOST);
        addIs("least less greatest", SUB, LEAST, MOST, 1);
        addIs("greatest less least", SUB, MOST, LEAST, -1);
        registerIs("less itself", ran(o(NUMBER, 3, LEAST), o(SUB, 3, 3)), 3, 0, 0);
    }

    private static void split() {
        for (int n = 1; n <= 47; n++) {
            Used x = ran(o(SPLIT, 1, 2, n));
            registerIs("SPLIT at " + n, x, 1, 1, 0, n, 15, 0);
            registerIs("SPLIT at " + n, x, 2, 1, n, 48, 15, 0);
        }
        Used x = ran(o(SPLIT, 1, 2, 16), o(SPLIT, 2, 3, 1), o(SPLIT, 3, 4, 30));
        registerIs("not from 0: one word is kept", x, 2, 1, 16, 17, 15, 0);
        registerIs("not from 0: all but one are kept", x, 3, 1, 17, 47, 15, 0);
        registerIs("not from 0: one word is left", x, 4, 1, 47, 48, 15, 0);
        Check.same("conserve", x.conserve(), 0);
        x = ran(o(RESTRICT, 1, 2, 6), o(SPLIT, 1, 3, 40));
        registerIs("the same rights", x, 1, 1, 0, 40, 6, 0);
        registerIs("the same rights", x, 3, 1, 40, 48, 6, 0);
        Check.same("conserve", x.conserve(), 0);
    }

    private static void rangeOfOneWord() {
        Used x = ran(o(SPLIT, 1, 2, 47), o(NUMBER, 3, 8), o(STORE, 3, 2, 0), o(LOAD, 4, 2, 0), o(RESTRICT, 2, 5, 1), o(FREEZE, 2),
            o(LOAD, 6, 2, 0));
        registerIs("the one word", x, 2, 2, 47, 48, 1, 0);
        registerIs("loaded by the exclusive one", x, 4, 0, 8);
        registerIs("loaded by the shared one", x, 6, 0, 8);
        lastFaults("SPLIT of one word", 2, o(SPLIT, 1, 2, 1), o(SPLIT, 1, 3, 1));
        lastFaults("SPLIT of one word at 0", 2, o(SPLIT, 1, 2, 1), o(SPLIT, 1, 3, 0));
        lastFaults("LOAD behind the one word", 2, o(SPLIT, 1, 2, 1), o(LOAD, 3, 1, 1));
        lastFaults("STORE before the one word", 2, o(SPLIT, 1, 2, 47), o(STORE, 3, 2, -1));
    }

    private static void mergeRanges() {
        int[] cutAgain = o(SPLIT, 2, 3, 8);
        Used x = ran(CUT, cutAgain, o(MERGE, 2, 3));
        registerIs("right behind", x, 2, 1, 16, 48, 15, 0);
        registerIs("R b is 0", x, 3, 0, 0, 0, 0, 0);
        x = ran(CUT, cutAgain, o(MERGE, 3, 2));
        registerIs("right before", x, 3, 1, 16, 48, 15, 0);
        registerIs("R b is 0", x, 2, 0, 0, 0, 0, 0);
        x = ran(o(SPLIT, 1, 2, 1), o(SPLIT, 2, 3, 1), o(MERGE, 2, 1), o(MERGE, 3, 2));
        registerIs("one word and one word, then all words", x, 3, 1, 0, 48, 15, 0);
        Check.same("conserve", x.conserve(), 0);
        x = ran(o(RESTRICT, 1, 2, 4), o(SPLIT, 1, 3, 47), o(MERGE, 1, 3));
        registerIs("with one right alone", x, 1, 1, 0, 48, 4, 0);
        Check.same("conserve", x.conserve(), 0);
    }

    private static void mergeRights() {
        Used x = ran(CUT, READ_ONLY, o(RESTRICT, 3, 4, 8), o(MERGE, 4, 2));
        registerIs("the rights of both", x, 4, 1, 16, 48, 7, 0);
        registerIs("R b is 0", x, 2, 0, 0, 0, 0, 0);
        x = ran(o(RESTRICT, 1, 2, 1), o(RESTRICT, 2, 3, 2), o(RESTRICT, 3, 4, 4), o(MERGE, 4, 1), o(MERGE, 4, 3), o(MERGE, 4, 2));
        registerIs("all four, one by one", x, 4, 1, 0, 48, 15, 0);
        Check.same("conserve", x.conserve(), 0);
        x = ran(o(SPLIT, 1, 2, 47), o(RESTRICT, 2, 3, 5), o(MERGE, 2, 3));
        registerIs("of one word", x, 2, 1, 47, 48, 15, 0);
    }

    private static void restrict() {
        for (int m = 1; m <= 14; m++) {
            for (int more : new int[] {0, 16, -16, LEAST}) {
                Used x = ran(CUT, o(RESTRICT, 2, 3, m + more));
                registerIs("RESTRICT to " + (m + more), x, 2, 1, 16, 48, m, 0);
                registerIs("RESTRICT to " + (m + more), x, 3, 1, 16, 48, 15 - m, 0);
            }
        }
        Used x = ran(o(RESTRICT, 1, 2, 9), o(RESTRICT, 1, 3, 7));
        registerIs("a right in m that it has not", x, 1, 1, 0, 48, 1, 0);
        registerIs("the others", x, 3, 1, 0, 48, 8, 0);
        Check.same("conserve", x.conserve(), 0);
    }

    private static void everySetOfRights() {
        for (int m = 1; m <= 14; m++) {
            Used x = ran(o(RESTRICT, 1, 2, m));
            for (int right = 1; right <= 8; right *= 2) {
                Check.same("the owner of " + right + " among " + m, x.owner(47, right), (m & right) != 0 ? 1 : 2);
            }
            Check.same("conserve", x.conserve(), 0);
        }
    }

    private static void lowestCell() {
        Used x = ran(sixCells());
        for (int cell = 0; cell < 6; cell++) {
            registerIs("the cells in their order", x, cell + 1, 2, 2 * cell, 2 * cell + 2, 1, cell);
            Check.same("count(" + cell + ")", x.count(cell), 1);
        }
        x = ran(joined(sixCells(), o(THAW, 6), o(THAW, 4), o(FREEZE, 7), o(FREEZE, 4)));
        registerIs("the lower of two that are free again", x, 7, 2, 12, 48, 1, 3);
        registerIs("then the last", x, 4, 2, 6, 8, 1, 5);
        Check.same("conserve", x.conserve(), 0);
        x = ran(CUT, READ_ONLY, FROZEN, o(MOVE, 4, 2), o(SPLIT, 1, 5, 8), o(RESTRICT, 5, 6, 1), o(FREEZE, 5));
        registerIs("a cell with a count of 2 is not free", x, 5, 2, 8, 16, 1, 1);
        Check.same("count(0)", x.count(0), 2);
    }

    private static void sharedRights() {
        Used x = ran(CUT, READ_ONLY, FROZEN);
        registerIs("frozen", x, 2, 2, 16, 48, 1, 0);
        Check.same("read is the cell's", x.owner(16, 1), 400);
        Check.same("write is another's", x.owner(16, 2), 3);
    }

    private static void thaw() {
        Used x = ran(CUT, READ_ONLY, FROZEN, o(THAW, 2));
        registerIs("thawed", x, 2, 1, 16, 48, 1, 0);
        Check.same("the count", x.count(0), 0);
        x = ran(CUT, READ_ONLY, FROZEN, o(MOVE, 4, 2), o(DROP, 2), o(THAW, 4));
        registerIs("the copy, the first being dropped", x, 4, 1, 16, 48, 1, 0);
        Check.same("the count", x.count(0), 0);
        x = ran(joined(sixCells(), o(THAW, 6)));
        registerIs("of the last cell", x, 6, 1, 10, 12, 1, 0);
        Check.same("its count", x.count(5), 0);
        Check.same("another's count", x.count(4), 1);
        Check.same("conserve", x.conserve(), 0);
    }

    private static void drop() {
        Used x = booted(CUT, READ_ONLY, FROZEN, o(MOVE, 4, 2), o(MOVE, 5, 2), o(DROP, 2), o(DROP, 5), o(DROP, 4));
        go(x, 6);
        registerIs("dropped", x, 2, 0, 0, 0, 0, 0);
        Check.same("3 less 1", x.count(0), 2);
        go(x, 1);
        Check.same("2 less 1", x.count(0), 1);
        registerIs("the last stays", x, 4, 2, 16, 48, 1, 0);
        Check.same("the last one is not dropped", x.step(1), 6);
        Check.same("conserve", x.conserve(), 0);
    }

    private static void load() {
        Used x = ran(CUT, o(NUMBER, 3, -4), o(STORE, 3, 2, 31), o(NUMBER, 3, 9), o(STORE, 3, 2, 0), o(NUMBER, 3, 6), o(STORE, 3, 1, 15),
            o(LOAD, 4, 2, 31), o(LOAD, 5, 2, 0), o(LOAD, 0, 1, 15), o(LOAD, 7, 1, 14));
        registerIs("the last word of the range", x, 4, 0, -4, 0, 0, 0);
        registerIs("the first", x, 5, 0, 9);
        registerIs("the last of another", x, 0, 0, 6);
        registerIs("a word that is 0", x, 7, 0, 0);
        wordIs("a number stays", x, 47, 0, -4);
        registerIs("read alone is enough", ran(o(NUMBER, 3, 5), o(STORE, 3, 1, 9), o(RESTRICT, 1, 2, 1), o(LOAD, 4, 1, 9)), 4, 0, 5);
    }

    private static void taking() {
        Used x = ran(CUT, o(STORE, 2, 1, 15), o(LOAD, 7, 1, 15));
        registerIs("an exclusive one", x, 7, 1, 16, 48, 15, 0);
        wordIs("is gone there", x, 15, 0, 0, 0, 0, 0);
        x = ran(CUT, SEALED, o(STORE, 2, 1, 0), o(LOAD, 7, 1, 0));
        registerIs("a seal", x, 7, 3, 0, 0, 0, 0);
        wordIs("is gone there", x, 0, 0, 0, 0, 0, 0);
        x = ran(CUT, o(STORE, 2, 1, 3), o(RESTRICT, 1, 4, 3), o(LOAD, 5, 1, 3));
        registerIs("with read and write alone", x, 5, 1, 16, 48, 15, 0);
        x = ran(CUT, READ_ONLY, FROZEN, o(STORE, 2, 1, 3), o(RESTRICT, 1, 4, 1), o(LOAD, 5, 1, 3));
        registerIs("a shared one with read alone", x, 5, 2, 16, 48, 1, 0);
        wordIs("stays there", x, 3, 2, 16, 48, 1, 0);
        Check.same("count", x.count(0), 3);
        Check.same("conserve", x.conserve(), 0);
    }

    private static void store() {
        Used x = ran(CUT, o(NUMBER, 3, MOST), o(STORE, 3, 2, 31), o(STORE, 3, 2, 0), o(STORE, 2, 1, 15), o(STORE, 1, 1, 0));
        wordIs("the last word", x, 47, 0, MOST, 0, 0, 0);
        wordIs("the first of the range", x, 16, 0, MOST);
        wordIs("the one before it", x, 17, 0, 0);
        wordIs("a right to other words", x, 15, 1, 16, 48, 15, 0);
        wordIs("a right to its own word", x, 0, 1, 0, 16, 15, 0);
        registerIs("it is gone", x, 1, 0, 0, 0, 0, 0);
        Check.same("conserve", x.conserve(), 0);
        wordIs("write alone is enough", ran(o(RESTRICT, 1, 2, 2), o(NUMBER, 3, 5), o(STORE, 3, 1, 9)), 9, 0, 5);
        wordIs("a number over a number", ran(o(NUMBER, 3, 5), o(STORE, 3, 1, 9), o(STORE, 4, 1, 9)), 9, 0, 0);
    }

    private static void jump() {
        Used x = booted(joined(rows(o(JUMP, 23)), joined(times(22, STOP), o(JUMP, 0))));
        for (int i = 0; i < 4; i++) {
            Check.same("the next order", x.look(2), i % 2 == 0 ? 0 : 23);
            Check.same("to the last, to the first", x.step(1), 0);
        }
        x = booted(o(JUMP, 0));
        Check.same("to itself", x.step(30), 0);
        Check.same("the next order", x.look(2), 0);
        x = booted(o(JUMP, 2), STOP, o(NUMBER, 2, 1));
        Check.same("step", x.step(2), 0);
        registerIs("on from there", x, 2, 0, 1);
    }

    private static void zero() {
        for (int n : new int[] {1, -1, LEAST, MOST}) {
            Used x = ran(o(NUMBER, 2, n), o(ZERO, 2, 9));
            Check.same("ZERO of " + n, x.look(2), 2);
        }
        Check.same("ZERO of 0", ran(o(NUMBER, 2, 0), o(ZERO, 2, 9)).look(2), 9);
        Check.same("ZERO of a new register", ran(o(ZERO, 7, 23)).look(2), 23);
        Check.same("back to itself", booted(o(ZERO, 0, 0)).step(30), 0);
    }

    private static void lessIs(int left, int right, boolean due) {
        Used x = ran(o(NUMBER, 2, left), o(NUMBER, 3, right), o(LESS, 2, 3, 9));
        Check.same(left + " is less than " + right, x.look(2), due ? 9 : 3);
    }

    private static void less() {
        lessIs(4, 5, true);
        lessIs(5, 5, false);
        lessIs(6, 5, false);
        lessIs(-1, 0, true);
        lessIs(0, -1, false);
        lessIs(LEAST, MOST, true);
        lessIs(MOST, LEAST, false);
        lessIs(LEAST, LEAST + 1, true);
        lessIs(MOST, MOST, false);
        lessIs(LEAST, LEAST, false);
        Check.same("a register with itself", ran(o(LESS, 2, 2, 9)).look(2), 1);
    }

    private static void lowestGate() {
        Used x = ran(sixGates());
        for (int g = 0; g < 6; g++) {
            registerIs("the gates in their order", x, g + 1, 3, 0, 0, 0, g);
            Check.same("it is there", x.gate(g, 0), 1);
            Check.same("its module", x.gate(g, 1), g == 4 ? 2 : 1);
            Check.same("who owns what is in it", x.owner(2 * g, 8), 300 + g);
        }
        Check.same("conserve", x.conserve(), 0);
        for (int m = 0; m <= 2; m++) {
            Check.same("module " + m, ran(CUT, o(SEAL, 2, m, 0)).gate(0, 1), m);
        }
        x = ran(o(RESTRICT, 1, 2, 8), o(SEAL, 1, 0, 0));
        registerIs("one with a single right", x, 1, 3, 0, 0, 0, 0);
        Check.same("its owner", x.owner(0, 8), 300);
    }

    private static void everyPattern() {
        for (int p = 0; p <= 63; p++) {
            Used x = ran(CUT, o(SEAL, 2, 1, p));
            Check.same("the pattern", x.gate(0, 2), p);
            registerIs("the seal", x, 2, 3, 0, 0, 0, 0);
        }
    }

    private static void halt() {
        Used x = booted(CUT, STOP, STOP);
        go(x, 1);
        Check.same("HALT", x.step(1), -1);
        looksAre("after HALT", x, 0, 0, 2, 2, -1);
        registerIs("HALT changes no register", x, 1, 1, 0, 16, 15, 0);
        registerIs("HALT changes no register", x, 2, 1, 16, 48, 15, 0);
        Check.same("HALT with any numbers behind it", booted(o(HALT, 99, -99, LEAST)).step(1), -1);
    }

    private static void numbersAreCopied() {
        Used x = ran(o(NUMBER, 2, LEAST), o(MOVE, 3, 2), o(STORE, 2, 1, 5), o(LOAD, 4, 1, 5));
        registerIs("it stays", x, 2, 0, LEAST);
        registerIs("by MOVE", x, 3, 0, LEAST);
        wordIs("by STORE", x, 5, 0, LEAST);
        registerIs("by LOAD", x, 4, 0, LEAST);
    }

    private static void rightsAreMoved() {
        Used x = ran(CUT, o(MOVE, 3, 2), o(STORE, 3, 1, 5));
        registerIs("after MOVE", x, 2, 0, 0, 0, 0, 0);
        registerIs("after STORE", x, 3, 0, 0, 0, 0, 0);
        wordIs("there it is", x, 5, 1, 16, 48, 15, 0);
        x = ran(CUT, SEALED, o(MOVE, 3, 2), o(STORE, 3, 1, 5));
        registerIs("a seal after MOVE", x, 2, 0, 0, 0, 0, 0);
        registerIs("a seal after STORE", x, 3, 0, 0, 0, 0, 0);
        wordIs("there it is", x, 5, 3, 0, 0, 0, 0);
        x = ran(CUT, SEALED, o(STORE, 2, 1, 5), o(LOAD, 4, 1, 5));
        wordIs("a seal after TAKING", x, 5, 0, 0, 0, 0, 0);
        x = ran(CUT, o(STORE, 2, 1, 5), o(LOAD, 4, 1, 5));
        wordIs("an exclusive one after TAKING", x, 5, 0, 0, 0, 0, 0);
        Check.same("conserve", x.conserve(), 0);
    }

    private static void sharedAreCopied() {
        Used x = booted(CUT, READ_ONLY, FROZEN, o(MOVE, 4, 2), o(STORE, 4, 1, 5), o(LOAD, 6, 1, 5));
        for (int count = 0; count <= 3; count++) {
            go(x, count == 0 ? 3 : 1);
            Check.same("the count after " + count + " copies", x.count(0), 1 + count);
        }
        registerIs("the first", x, 2, 2, 16, 48, 1, 0);
        registerIs("by MOVE", x, 4, 2, 16, 48, 1, 0);
        wordIs("by STORE", x, 5, 2, 16, 48, 1, 0);
        registerIs("by LOAD", x, 6, 2, 16, 48, 1, 0);
        Check.same("conserve", x.conserve(), 0);
    }

    /** LOAD alone says no more than a capability. */
    private static void sharedIsAWay() {
        Used x = ran(CUT, o(NUMBER, 4, 5), o(STORE, 4, 2, 31), READ_ONLY, FROZEN, o(LOAD, 5, 2, 31), o(LOAD, 6, 2, 0));
        registerIs("the last word by a shared one", x, 5, 0, 5);
        registerIs("the first word by a shared one", x, 6, 0, 0);
        Check.same("its count stays", x.count(0), 1);
    }
}
