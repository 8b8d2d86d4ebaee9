/** Promise 4: each fault but those of RETURN; an order with one changes nothing (faults looks at that). */
public final class Promise04FaultsTest extends Machines {
    private static final int[] WITH_A = {
        NUMBER, MOVE, ADD, SUB, SPLIT, MERGE, RESTRICT, FREEZE, THAW, DROP, LOAD, STORE, ZERO, LESS, SEAL, CALL};
    private static final int[] WITH_B = {MOVE, ADD, SUB, SPLIT, MERGE, RESTRICT, LOAD, STORE, LESS};

    public static void main(String[] args) {
        Sentence.holds("4.40", "5 there is no order at the place", Promise04FaultsTest::noOrder);
        Sentence.holds("4.41", "a or b not 0 .. 7;", Promise04FaultsTest::noRegister);
        Sentence.holds("4.42", "an operation that is none;", Promise04FaultsTest::noOperation);
        Sentence.holds("4.43", "m of SEAL not 0 .. 2;", Promise04FaultsTest::noModule);
        Sentence.holds("4.44", "its p not 0 .. 63;", Promise04FaultsTest::noPattern);
        Sentence.holds("4.45", "k not 0 .. 6", Promise04FaultsTest::noK);
        Sentence.holds("4.46", "or it has a wrong number", Promise04FaultsTest::numbersThatAreFree);
        Sentence.holds("4.47", "1 a number where a capability (or seal) is needed", Promise04FaultsTest::numberForRight);
        Sentence.holds("4.48", "or the reverse", Promise04FaultsTest::rightForNumber);
        Sentence.holds("4.49", "or one of another kind than said", Promise04FaultsTest::anotherKind);
        Sentence.holds("4.50", "(R b of STORE shared is 2)", Promise04FaultsTest::storeByShared);
        Sentence.holds("4.51", "2 from + n is not in the range", Promise04FaultsTest::outsideTheRange);
        Sentence.holds("4.52", "(for SPLIT: one side would be empty)", Promise04FaultsTest::emptySide);
        Sentence.holds("4.53", "or a right is missing: read for LOAD", Promise04FaultsTest::loadWithoutRead);
        Sentence.holds("4.54", "write for STORE", Promise04FaultsTest::storeWithoutWrite);
        Sentence.holds("4.55", "and write for a TAKING of an exclusive one or a seal;", Promise04FaultsTest::takingWithoutWrite);
        Sentence.holds("4.56", "RESTRICT would leave a side without rights;", Promise04FaultsTest::sideWithoutRights);
        Sentence.holds("4.57", "FREEZE has other rights.", Promise04FaultsTest::freezeOfOtherRights);
        Sentence.holds("4.58", "3 where := goes holds a capability or seal", Promise04FaultsTest::fullRegister);
        Sentence.holds("4.59", "(for SPLIT and RESTRICT R b, also if a is b;", Promise04FaultsTest::fullOtherSide);
        Sentence.holds("4.60", "for LOAD and STORE the place)", Promise04FaultsTest::fullPlace);
        Sentence.holds("4.61", "MOVE a a of one likewise;", Promise04FaultsTest::moveToItself);
        Sentence.holds("4.62", "CALL: R 0 holds one.", Promise04FaultsTest::callWithFullR0);
        Sentence.holds("4.63", "4 MERGE's two do not fit", Promise04FaultsTest::unfitMerges);
        Sentence.holds("4.64", "(also a with a).", Promise04FaultsTest::mergeWithItself);
        Sentence.holds("4.65", "6 THAW's or DROP's count is not so.", Promise04FaultsTest::wrongCounts);
        Sentence.holds("4.66", "7 no cell or gate is left", Promise04FaultsTest::noneLeft);
        Sentence.holds("4.67", "CALL's gate is open", Promise04FaultsTest::openGate);
        Sentence.holds("4.68", "or there are five frames.", Promise04FaultsTest::fiveFrames);
        Sentence.holds("4.69", "FAULTS, the first of these that is so:", Promise04FaultsTest::firstOfSeveral);
        Sentence.holds("4.70", "Where := goes must not hold a capability or seal.", Promise04FaultsTest::everyKindIsFull);
        Check.end();
    }

    private static void noOrder() {
        faults("no code", 5, () -> booted());
        faults("behind the only one", 5, () -> ran(o(NUMBER, 0, 0)));
        faults("behind the 24th", 5, () -> ran(times(24, o(NUMBER, 0, 0))));
        for (int n : new int[] {1, 24, -1, LEAST, MOST}) {
            faults("JUMP " + n, 5, () -> ran(o(JUMP, n)));
            faults("ZERO to " + n, 5, () -> ran(o(ZERO, 0, n)));
        }
        for (int n : new int[] {2, 24, -1, LEAST, MOST}) {
            faults("LESS to " + n, 5, () -> ran(o(NUMBER, 2, -1), o(LESS, 2, 0, n)));
            Check.same("the order that is next", ran(o(JUMP, n)).look(2), n);
        }
        faults("a called module without code", 5, () -> ran(CUT, SEALED, o(CALL, 2, 0)));
        faults("another module's code is longer", 5, after(() -> booted(rows(o(JUMP, 2)), times(3, STOP), NO_CODE), x -> go(x, 1)));
        int[][] callIsLast = joined(times(21, o(NUMBER, 0, 0)), CUT, SEALED, o(CALL, 2, 0));
        faults("CALL was the last order", 5, after(() -> booted(callIsLast, rows(BACK), NO_CODE), x -> go(x, 25)));
    }

    private static void noRegister() {
        for (int r : outside(0, 7)) {
            for (int operation : WITH_A) {
                lastFaults("operation " + operation + " with a " + r, 5, o(operation, r, 0, 1));
            }
            for (int operation : WITH_B) {
                lastFaults("operation " + operation + " with b " + r, 5, o(operation, 1, r, 1));
            }
        }
        for (int r : new int[] {0, 7}) {
            Check.same("a is " + r, ran(o(ADD, r, 2)).look(4), 0);
            Check.same("b is " + r, ran(o(ADD, 2, r)).look(4), 0);
        }
    }

    private static void noOperation() {
        for (int operation : outside(0, 18)) {
            lastFaults("operation " + operation, 5, o(operation, 0, 0, 0));
        }
        Check.same("the last one", booted(o(18)).step(1), -1);
        Check.same("the first one", booted(o(0)).step(1), 0);
    }

    private static void noModule() {
        for (int m : outside(0, 2)) {
            lastFaults("SEAL with module " + m, 5, o(SEAL, 1, m, 0));
        }
        for (int m = 0; m <= 2; m++) {
            Check.same("SEAL with module " + m, booted(o(SEAL, 1, m, 0)).step(1), 0);
        }
    }

    private static void noPattern() {
        for (int p : outside(0, 63)) {
            lastFaults("SEAL with pattern " + p, 5, o(SEAL, 1, 0, p));
        }
        Check.same("the least pattern", booted(o(SEAL, 1, 0, 0)).step(1), 0);
        Check.same("the greatest pattern", booted(o(SEAL, 1, 0, 63)).step(1), 0);
    }

    private static void noK() {
        for (int k : outside(0, 6)) {
            lastFaults("CALL with " + k, 5, CUT, SEALED, o(CALL, 2, k));
        }
        for (int k = 0; k <= 6; k++) {
            Check.same("CALL with " + k, booted(CUT, SEALED, o(CALL, 2, k)).step(3), 0);
        }
    }

    /** What an order has no use for may be anything, and so may n and the m of RESTRICT. */
    private static void numbersThatAreFree() {
        ran(o(NUMBER, 0, 99, 99), o(ADD, 0, 0, 99), o(SUB, 0, 0, -99), o(MOVE, 4, 0, 99), o(JUMP, 5, 99, -99), o(SPLIT, 1, 2, 16),
            o(RESTRICT, 2, 3, 17), o(FREEZE, 2, 99, 99), o(MOVE, 4, 2, LEAST), o(DROP, 4, 8, 8), o(THAW, 2, -1, -1),
            o(MERGE, 2, 3, MOST), o(SEAL, 2, 1, 63), o(ZERO, 0, 14, 99), o(CALL, 2, 0, 99));
        lastFaults("RETURN with any numbers", 8, o(RETURN, 99, 99, 99));
    }

    private static void numberForRight() {
        for (int operation : new int[] {SPLIT, RESTRICT, FREEZE, SEAL, THAW, DROP, CALL}) {
            lastFaults(operation + " of a number", 1, o(operation, 4, 2, 1));
            lastFaults(operation + " of a number that is not 0", 1, o(NUMBER, 4, 1), o(operation, 4, 2, 1));
        }
        lastFaults("MERGE with a number", 1, o(MERGE, 1, 2));
        lastFaults("MERGE of a number", 1, o(MERGE, 2, 1));
        lastFaults("LOAD by a number", 1, o(LOAD, 2, 3, 0));
        lastFaults("STORE by a number", 1, o(STORE, 2, 3, 0));
    }

    private static void rightForNumber() {
        for (int operation : new int[] {ADD, SUB, LESS}) {
            lastFaults(operation + " of an exclusive one", 1, o(operation, 1, 0, 0));
            lastFaults(operation + " with an exclusive one", 1, o(operation, 0, 1, 0));
            lastFaults(operation + " of one with itself", 1, o(operation, 1, 1, 0));
            lastFaults(operation + " of a shared one", 1, CUT, READ_ONLY, FROZEN, o(operation, 2, 0, 0));
            lastFaults(operation + " with a shared one", 1, CUT, READ_ONLY, FROZEN, o(operation, 0, 2, 0));
            lastFaults(operation + " of a seal", 1, CUT, SEALED, o(operation, 2, 0, 0));
            lastFaults(operation + " with a seal", 1, CUT, SEALED, o(operation, 0, 2, 0));
        }
        lastFaults("ZERO of an exclusive one", 1, o(ZERO, 1, 0));
        lastFaults("ZERO of a shared one", 1, CUT, READ_ONLY, FROZEN, o(ZERO, 2, 0));
        lastFaults("ZERO of a seal", 1, CUT, SEALED, o(ZERO, 2, 0));
    }

    private static void anotherKind() {
        for (int operation : new int[] {SPLIT, RESTRICT, FREEZE, SEAL}) {
            lastFaults(operation + " of a shared one", 1, CUT, READ_ONLY, FROZEN, o(operation, 2, 1, 1));
            lastFaults(operation + " of a seal", 1, CUT, SEALED, o(operation, 2, 1, 1));
        }
        for (int operation : new int[] {THAW, DROP}) {
            lastFaults(operation + " of an exclusive one", 1, o(operation, 1));
            lastFaults(operation + " of one with read alone", 1, CUT, READ_ONLY, o(operation, 2));
            lastFaults(operation + " of a seal", 1, CUT, SEALED, o(operation, 2));
        }
        lastFaults("MERGE with a shared one", 1, CUT, READ_ONLY, FROZEN, o(MERGE, 3, 2));
        lastFaults("MERGE of a shared one", 1, CUT, READ_ONLY, FROZEN, o(MERGE, 2, 3));
        lastFaults("MERGE with a seal", 1, CUT, SEALED, o(MERGE, 1, 2));
        lastFaults("MERGE of a seal", 1, CUT, SEALED, o(MERGE, 2, 1));
        lastFaults("LOAD by a seal", 1, CUT, SEALED, o(LOAD, 3, 2, 0));
        lastFaults("STORE by a seal", 1, CUT, SEALED, o(STORE, 3, 2, 0));
        lastFaults("CALL of an exclusive one", 1, o(CALL, 1, 0));
        lastFaults("CALL of a shared one", 1, CUT, READ_ONLY, FROZEN, o(CALL, 2, 0));
    }

    private static void storeByShared() {
        lastFaults("a number", 2, CUT, READ_ONLY, FROZEN, o(STORE, 4, 2, 0));
        lastFaults("a right", 2, CUT, READ_ONLY, FROZEN, o(STORE, 1, 2, 0));
        lastFaults("itself", 2, CUT, READ_ONLY, FROZEN, o(STORE, 2, 2, 0));
        lastFaults("outside the range", 2, CUT, READ_ONLY, FROZEN, o(STORE, 4, 2, 99));
    }

    /** R 2 has the words 16 .. 47. */
    private static void outsideTheRange() {
        for (int n : new int[] {32, -1, -16, -17, 33, LEAST, MOST, MOST - 15, LEAST + 16}) {
            lastFaults("LOAD at " + n, 2, CUT, o(LOAD, 3, 2, n));
            lastFaults("STORE at " + n, 2, CUT, o(STORE, 3, 2, n));
        }
        lastFaults("LOAD behind a range that others go on from", 2, CUT, o(LOAD, 3, 1, 16));
        lastFaults("STORE behind a range that others go on from", 2, CUT, o(STORE, 3, 1, 16));
        lastFaults("LOAD behind the last word", 2, o(LOAD, 3, 1, 48));
        lastFaults("LOAD by a shared one behind its range", 2, o(RESTRICT, 1, 2, 1), o(SPLIT, 1, 3, 8), o(FREEZE, 1), o(LOAD, 4, 1, 8));
        Check.same("both ends are inside", ran(CUT, o(LOAD, 3, 2, 31), o(STORE, 3, 2, 31), o(LOAD, 3, 2, 0), o(STORE, 3, 2, 0)).look(4), 0);
    }

    private static void emptySide() {
        for (int n : new int[] {0, 48, -1, 49, LEAST, MOST}) {
            lastFaults("SPLIT at " + n, 2, o(SPLIT, 1, 2, n));
        }
        for (int n : new int[] {0, 32, 33, 48, -1, -16, MOST - 15, MOST}) {
            lastFaults("SPLIT of a range not from 0, at " + n, 2, CUT, o(SPLIT, 2, 3, n));
        }
        Check.same("one word on this side", booted(o(SPLIT, 1, 2, 1)).step(1), 0);
        Check.same("one word on that side", booted(o(SPLIT, 1, 2, 47)).step(1), 0);
    }

    private static void loadWithoutRead() {
        for (int m : new int[] {14, 2, 4, 8}) {
            lastFaults("LOAD with " + m, 2, o(RESTRICT, 1, 2, m), o(LOAD, 3, 1, 0));
            lastFaults("TAKING with " + m, 2, CUT, o(STORE, 2, 1, 0), o(RESTRICT, 1, 3, m), o(LOAD, 4, 1, 0));
        }
    }

    private static void storeWithoutWrite() {
        for (int m : new int[] {13, 1, 4, 8}) {
            lastFaults("STORE with " + m, 2, o(RESTRICT, 1, 2, m), o(STORE, 3, 1, 0));
            lastFaults("STORE of a right with " + m, 2, o(RESTRICT, 1, 2, m), o(STORE, 1, 1, 0));
        }
    }

    private static void takingWithoutWrite() {
        int[] stored = o(STORE, 2, 1, 0);
        for (int m : new int[] {13, 1, 5, 9}) {
            int[] noWrite = o(RESTRICT, 1, 3, m);
            lastFaults("an exclusive one", 2, CUT, stored, noWrite, o(LOAD, 4, 1, 0));
            lastFaults("a seal", 2, CUT, SEALED, stored, noWrite, o(LOAD, 4, 1, 0));
            Check.same("a number", ran(CUT, stored, noWrite, o(LOAD, 4, 1, 1)).look(4), 0);
        }
        int[] noWrite = o(RESTRICT, 1, 3, 1);
        lastFaults("an exclusive one, by a shared one", 2, CUT, stored, noWrite, o(FREEZE, 1), o(LOAD, 4, 1, 0));
        lastFaults("a seal, by a shared one", 2, CUT, SEALED, stored, noWrite, o(FREEZE, 1), o(LOAD, 4, 1, 0));
        Check.same("a shared one needs no write", ran(CUT, o(RESTRICT, 2, 5, 1), FROZEN, stored, noWrite, o(LOAD, 4, 1, 0)).count(0), 3);
    }

    private static void sideWithoutRights() {
        for (int m : new int[] {0, 15, 16, -1, 31, LEAST, MOST}) {
            lastFaults("RESTRICT to " + m, 2, o(RESTRICT, 1, 2, m));
        }
        for (int m : new int[] {0, 6, 7, 9, 14, 15, -1}) {
            lastFaults("RESTRICT of 6 to " + m, 2, o(RESTRICT, 1, 2, 6), o(RESTRICT, 1, 3, m));
        }
        Check.same("RESTRICT of 6 to one of two", ran(o(RESTRICT, 1, 2, 6), o(RESTRICT, 1, 3, 2)).register(1, 3), 2);
        for (int right = 1; right <= 8; right *= 2) {
            lastFaults("RESTRICT of a single right", 2, o(RESTRICT, 1, 2, right), o(RESTRICT, 1, 3, right));
        }
    }

    private static void freezeOfOtherRights() {
        lastFaults("FREEZE with all", 2, o(FREEZE, 1));
        for (int m = 2; m <= 14; m++) {
            lastFaults("FREEZE with " + m, 2, o(RESTRICT, 1, 2, m), o(FREEZE, 1));
        }
        Check.same("FREEZE with read alone", booted(o(RESTRICT, 1, 2, 1), o(FREEZE, 1)).step(2), 0);
    }

    private static void fullRegister() {
        lastFaults("NUMBER over an exclusive one", 3, o(NUMBER, 1, 0));
        lastFaults("NUMBER over a shared one", 3, CUT, READ_ONLY, FROZEN, o(NUMBER, 2, 0));
        lastFaults("NUMBER over a seal", 3, CUT, SEALED, o(NUMBER, 2, 0));
        lastFaults("MOVE of a number over an exclusive one", 3, o(MOVE, 1, 2));
        lastFaults("MOVE of a number over a shared one", 3, CUT, READ_ONLY, FROZEN, o(MOVE, 2, 0));
        lastFaults("MOVE of a number over a seal", 3, CUT, SEALED, o(MOVE, 2, 0));
        lastFaults("MOVE of an exclusive one over an exclusive one", 3, CUT, o(MOVE, 1, 2));
        lastFaults("MOVE of a shared one over its copy", 3, CUT, READ_ONLY, FROZEN, o(MOVE, 4, 2), o(MOVE, 4, 2));
        lastFaults("MOVE of a seal over an exclusive one", 3, CUT, SEALED, o(MOVE, 1, 2));
    }

    private static void fullOtherSide() {
        lastFaults("SPLIT into itself", 3, o(SPLIT, 1, 1, 5));
        lastFaults("SPLIT into an exclusive one", 3, CUT, o(SPLIT, 1, 2, 5));
        lastFaults("SPLIT into a shared one", 3, CUT, READ_ONLY, FROZEN, o(SPLIT, 1, 2, 5));
        lastFaults("SPLIT into a seal", 3, CUT, SEALED, o(SPLIT, 1, 2, 5));
        lastFaults("RESTRICT into itself", 3, o(RESTRICT, 1, 1, 1));
        lastFaults("RESTRICT into an exclusive one", 3, CUT, o(RESTRICT, 1, 2, 1));
        lastFaults("RESTRICT into a shared one", 3, CUT, READ_ONLY, FROZEN, o(RESTRICT, 1, 2, 1));
        lastFaults("RESTRICT into a seal", 3, CUT, SEALED, o(RESTRICT, 1, 2, 1));
        Check.same("a number there is lost", ran(o(NUMBER, 2, 7), o(SPLIT, 1, 2, 5), o(NUMBER, 3, 7), o(RESTRICT, 1, 3, 1)).conserve(), 0);
    }

    private static void fullPlace() {
        lastFaults("LOAD into an exclusive one", 3, CUT, o(LOAD, 2, 1, 0));
        lastFaults("LOAD into a shared one", 3, CUT, READ_ONLY, FROZEN, o(LOAD, 2, 1, 0));
        lastFaults("LOAD into a seal", 3, CUT, SEALED, o(LOAD, 2, 1, 0));
        lastFaults("LOAD into its own way", 3, o(LOAD, 1, 1, 0));
        lastFaults("TAKING into a full one", 3, CUT, o(SPLIT, 2, 3, 8), o(STORE, 2, 1, 0), o(LOAD, 3, 1, 0));
        int[] stored = o(STORE, 2, 1, 4);
        lastFaults("STORE of a number over an exclusive one", 3, CUT, stored, o(STORE, 2, 1, 4));
        lastFaults("STORE of a right over a seal", 3, CUT, SEALED, stored, o(STORE, 1, 1, 4));
        lastFaults("STORE of a shared one over its copy", 3, CUT, READ_ONLY, FROZEN, stored, stored);
        lastFaults("STORE of a number over a shared one", 3, CUT, READ_ONLY, FROZEN, stored, o(STORE, 4, 1, 4));
    }

    private static void moveToItself() {
        lastFaults("of an exclusive one", 3, o(MOVE, 1, 1));
        lastFaults("of a shared one", 3, CUT, READ_ONLY, FROZEN, o(MOVE, 2, 2));
        lastFaults("of a seal", 3, CUT, SEALED, o(MOVE, 2, 2));
        Check.same("of a number", ran(o(NUMBER, 3, 4), o(MOVE, 3, 3)).register(3, 1), 4);
    }

    private static void callWithFullR0() {
        lastFaults("an exclusive one", 3, CUT, SEALED, o(MOVE, 0, 1), o(CALL, 2, 0));
        lastFaults("a shared one", 3, CUT, o(SPLIT, 2, 3, 8), o(RESTRICT, 3, 4, 1), o(FREEZE, 3), SEALED, o(MOVE, 0, 3), o(CALL, 2, 0));
        lastFaults("a seal, another one", 3, CUT, SEALED, o(SEAL, 1, 1, 0), o(MOVE, 0, 1), o(CALL, 2, 0));
        lastFaults("the seal that is called", 3, CUT, SEALED, o(MOVE, 0, 2), o(CALL, 0, 0));
        Check.same("a number", booted(CUT, SEALED, o(NUMBER, 0, -1), o(CALL, 2, 0)).step(4), 0);
    }

    private static void unfitMerges() {
        int[] cutAgain = o(SPLIT, 2, 3, 8);
        lastFaults("a gap", 4, CUT, cutAgain, o(MERGE, 1, 3));
        lastFaults("a gap before", 4, CUT, cutAgain, o(MERGE, 3, 1));
        lastFaults("a gap of one word", 4, CUT, o(SPLIT, 2, 3, 1), o(MERGE, 1, 3));
        lastFaults("right behind with fewer rights", 4, CUT, READ_ONLY, o(MERGE, 1, 2));
        lastFaults("right before with fewer rights", 4, CUT, READ_ONLY, o(MERGE, 2, 1));
        lastFaults("right behind with no right in both", 4, o(RESTRICT, 1, 2, 3), o(SPLIT, 1, 3, 9), o(SPLIT, 2, 4, 9), o(MERGE, 1, 4));
        int[] half = o(RESTRICT, 1, 2, 3);
        int[] partOfIt = o(SPLIT, 1, 3, 9);
        lastFaults("no right in both, the same from alone", 4, half, partOfIt, o(MERGE, 1, 2));
        lastFaults("no right in both, the same end alone", 4, half, partOfIt, o(MERGE, 3, 2));
        lastFaults("no right in both, a range within the other", 4, half, o(SPLIT, 1, 3, 9), o(SPLIT, 3, 4, 9), o(MERGE, 2, 3));
    }

    private static void mergeWithItself() {
        lastFaults("all words", 4, o(MERGE, 1, 1));
        lastFaults("one word with one right", 4, o(SPLIT, 1, 2, 1), o(RESTRICT, 1, 3, 8), o(MERGE, 1, 1));
    }

    private static void wrongCounts() {
        int[] copy = o(MOVE, 4, 2);
        lastFaults("THAW with a count of 2", 6, CUT, READ_ONLY, FROZEN, copy, o(THAW, 2));
        lastFaults("THAW of the copy", 6, CUT, READ_ONLY, FROZEN, copy, o(THAW, 4));
        lastFaults("THAW with a count of 3", 6, CUT, READ_ONLY, FROZEN, copy, o(STORE, 4, 1, 0), o(THAW, 2));
        lastFaults("DROP with a count of 1", 6, CUT, READ_ONLY, FROZEN, o(DROP, 2));
        lastFaults("DROP with a count of 1 again", 6, CUT, READ_ONLY, FROZEN, copy, o(DROP, 2), o(DROP, 4));
        Check.same("THAW with a count of 1", booted(CUT, READ_ONLY, FROZEN, o(THAW, 2)).step(4), 0);
        Check.same("DROP with a count of 2", booted(CUT, READ_ONLY, FROZEN, copy, o(DROP, 2)).step(5), 0);
    }

    private static void noneLeft() {
        Check.same("the sixth cell", ran(sixCells()).count(5), 1);
        lastFaults("a seventh cell", 7, joined(sixCells(), o(FREEZE, 7)));
        Check.same("a cell that is free again", booted(joined(sixCells(), o(THAW, 3), o(FREEZE, 7))).step(15), 0);
        Check.same("the sixth gate", ran(sixGates()).gate(5, 0), 1);
        lastFaults("a seventh gate", 7, joined(sixGates(), o(SEAL, 7, 1, 0)));
        int[][] caller = joined(sixGates(), o(CALL, 1, 0));
        faults("a seventh gate, one being open", 7, after(() -> booted(caller, rows(o(SEAL, 7, 1, 0)), NO_CODE), x -> go(x, 13)));
    }

    private static void openGate() {
        faults("called from within", 7, () -> within(o(CALL, 2, 0)));
        faults("called from within with all registers", 7, () -> within(o(CALL, 2, 6)));
        Used x = booted(rows(CUT, o(SEAL, 2, 1, 3), o(CALL, 2, 2), o(CALL, 2, 2), STOP), rows(BACK), NO_CODE);
        Check.same("again after a RETURN", x.step(30), -1);
        Check.same("orders done", x.look(3), 7);
    }

    /** In a call of the gate 0 whose seal is in R 2. */
    private static Used within(int[]... code) {
        Used x = booted(rows(CUT, o(SEAL, 2, 1, 3), o(CALL, 2, 2), STOP), code, NO_CODE);
        go(x, 3);
        return x;
    }

    private static void fiveFrames() {
        Check.same("the fifth", fiveDeep().look(0), 5);
        faults("a sixth", 7, () -> fiveDeep(o(CALL, 2, 0)));
        faults("a sixth, its gate being open too", 7, () -> fiveDeep(o(CALL, 1, 0)));
    }

    private static void firstOfSeveral() {
        fiveIsFirst();
        oneIsBeforeTheOthers();
        twoIsBeforeThree();
        lastFaults("2 before 7: FREEZE", 2, joined(sixCells(), o(FREEZE, 0)));
        int[] fillR0 = o(MOVE, 0, 1);
        faults("3 before 7: CALL of an open gate", 3, after(() -> within(fillR0, o(CALL, 2, 0)), x -> go(x, 1)));
        faults("3 before 7: CALL with five frames", 3, after(() -> fiveDeep(fillR0, o(CALL, 2, 0)), x -> go(x, 1)));
    }

    private static void fiveIsFirst() {
        lastFaults("5 before 1: SEAL of a number", 5, o(SEAL, 4, 0, 64));
        lastFaults("5 before 1: CALL of a number", 5, o(CALL, 4, 7));
        lastFaults("5 before 1: MERGE of a number", 5, o(MERGE, 4, 8));
        lastFaults("5 before 2: SPLIT", 5, o(SPLIT, 1, 8, 0));
        lastFaults("5 before 2: LOAD", 5, o(LOAD, 8, 1, 48));
        lastFaults("5 before 3: MOVE", 5, o(MOVE, 1, 8));
        lastFaults("5 before 3: CALL", 5, CUT, SEALED, o(MOVE, 0, 1), o(CALL, 2, 7));
        lastFaults("5 before 7: SEAL", 5, joined(sixGates(), o(SEAL, 7, 3, 0)));
        faults("5 before 7: CALL of an open gate", 5, () -> within(o(CALL, 2, 7)));
        faults("5 before 7: CALL with five frames", 5, () -> fiveDeep(o(CALL, 2, -1)));
    }

    private static void oneIsBeforeTheOthers() {
        lastFaults("1 before 2: SPLIT", 1, o(SPLIT, 4, 2, 0));
        lastFaults("1 before 2: RESTRICT", 1, o(RESTRICT, 4, 2, 0));
        lastFaults("1 before 2: LOAD", 1, o(LOAD, 2, 3, 99));
        lastFaults("1 before 2: STORE", 1, o(STORE, 2, 3, 99));
        lastFaults("1 before 3: SPLIT", 1, o(SPLIT, 4, 1, 1));
        lastFaults("1 before 3: RESTRICT", 1, o(RESTRICT, 4, 1, 1));
        lastFaults("1 before 3: SPLIT of a seal into itself", 1, CUT, SEALED, o(SPLIT, 2, 2, 1));
        lastFaults("1 before 3: LOAD", 1, o(LOAD, 1, 3, 0));
        lastFaults("1 before 3: CALL", 1, CUT, o(MOVE, 0, 2), o(CALL, 1, 0));
        lastFaults("1 before 4: MERGE of a number with itself", 1, o(MERGE, 2, 2));
        lastFaults("1 before 4: MERGE of a shared one with itself", 1, CUT, READ_ONLY, FROZEN, o(MERGE, 2, 2));
        lastFaults("1 before 4: MERGE of a right with a number", 1, o(MERGE, 1, 5));
        lastFaults("1 before 7: FREEZE", 1, joined(sixCells(), o(STORE, 7, 0, 40), o(FREEZE, 7)));
        lastFaults("1 before 7: SEAL", 1, joined(sixGates(), o(SEAL, 0, 1, 0)));
        faults("1 before 7: CALL", 1, () -> fiveDeep(o(CALL, 3, 0)));
    }

    private static void twoIsBeforeThree() {
        lastFaults("2 before 3: SPLIT", 2, o(SPLIT, 1, 1, 0));
        lastFaults("2 before 3: RESTRICT", 2, o(RESTRICT, 1, 1, 0));
        lastFaults("2 before 3: LOAD outside", 2, CUT, o(LOAD, 1, 2, 32));
        lastFaults("2 before 3: LOAD without read", 2, CUT, o(RESTRICT, 1, 3, 14), o(LOAD, 2, 1, 0));
        int[] stored = o(STORE, 2, 1, 0);
        lastFaults("2 before 3: TAKING without write", 2, CUT, stored, o(RESTRICT, 1, 3, 13), o(LOAD, 3, 1, 0));
        lastFaults("2 before 3: STORE without write", 2, CUT, stored, o(RESTRICT, 1, 3, 13), o(STORE, 4, 1, 0));
        lastFaults("2 before 3: STORE by a shared one", 2, CUT, stored, o(RESTRICT, 1, 3, 1), o(FREEZE, 1), o(STORE, 4, 1, 0));
    }

    private static void everyKindIsFull() {
        for (int[] way : new int[][] {o(NUMBER, 2, 1), o(MOVE, 2, 0), o(LOAD, 2, 1, 0), o(SPLIT, 1, 2, 3), o(RESTRICT, 1, 2, 3)}) {
            lastFaults(way[0] + " over an exclusive one", 3, CUT, way);
            lastFaults(way[0] + " over a shared one", 3, CUT, READ_ONLY, FROZEN, way);
            lastFaults(way[0] + " over a seal", 3, CUT, SEALED, way);
            Check.same(way[0] + " over a number", booted(o(NUMBER, 2, 9), way).step(2), 0);
        }
    }
}
