import java.util.function.Supplier;

/** Promise 5: undo. */
public final class Promise05Test extends Machines {
    public static void main(String[] args) {
        Sentence.holds("5.1", "Takes the last n orders back", Promise05Test::everyOrder);
        Sentence.holds("5.2", "(a fault or HALT counts as one;", Promise05Test::stopsCount);
        Sentence.holds("5.3", "there are at most 40 to take back)", Promise05Test::atMostForty);
        Sentence.holds("5.4", "how many were;", Promise05Test::fewerThanN);
        Sentence.holds("5.5", "-1, refused, if n is not 1 .. 40.", Promise05Test::wrongN);
        Sentence.holds("5.6", "`int undo(int n)`: Takes the last n orders back", Promise05Test::nothingToTakeBack);
        Sentence.holds("5.7", "what it did can be taken back.", Promise05Test::framesAreTakenBack);
        Sentence.holds("5.8", "it runs no more then, nor after HALT.", Promise05Test::runsOn);
        Check.end();
    }

    /** R 3 counts the rounds: no two states of it are alike. */
    private static Used counter() {
        return booted(o(NUMBER, 2, 1), o(ADD, 3, 2), o(JUMP, 1));
    }

    private static Used counted(int orders) {
        Used x = counter();
        for (int left = orders; left > 0; left -= 30) {
            Check.same("step", x.step(Math.min(left, 30)), 0);
        }
        Check.same("orders done", x.look(3), orders);
        return x;
    }

    /** A run through all kinds of orders. */
    private static void everyOrder() {
        int[][] caller = rows(CUT, READ_ONLY, FROZEN, o(THAW, 2), o(MERGE, 2, 3), READ_ONLY, FROZEN, o(MOVE, 4, 2), o(STORE, 4, 1, 3),
            o(LOAD, 5, 1, 3), o(DROP, 5), o(DROP, 4), o(SPLIT, 1, 4, 8), o(SEAL, 4, 1, 3), o(STORE, 3, 1, 6), o(CALL, 4, 2),
            o(LOAD, 3, 1, 6), o(LOAD, 6, 1, 3), o(DROP, 6), o(JUMP, 20), o(ZERO, 5, 21), o(LESS, 5, 0, 22), STOP);
        int[][] callee = rows(o(NUMBER, 0, 9), o(ADD, 4, 0), o(STORE, 1, 7, 2), o(LOAD, 1, 7, 2), o(SUB, 3, 0), BACK);
        takenBackAnywhere(() -> booted(caller, callee, NO_CODE), 29);
    }

    /** Modules 1 and 2 call each other, so that a frame is used for a caller and then for another. */
    private static void framesAreTakenBack() {
        int[][] caller = rows(o(SPLIT, 1, 2, 8), o(SPLIT, 2, 3, 8), o(SPLIT, 3, 4, 8), o(SEAL, 2, 1, 63), o(SEAL, 3, 2, 63),
            o(NUMBER, 6, 1), o(CALL, 2, 6), o(CALL, 3, 6), STOP);
        int[][] first = rows(o(ZERO, 6, 2), o(CALL, 3, 0), BACK);
        int[][] second = rows(o(ZERO, 6, 3), o(CALL, 2, 1), o(NUMBER, 0, 4), BACK);
        takenBackAnywhere(() -> booted(caller, first, second), 20);
        Check.same("from five frames", after(() -> fiveDeep(), x -> Check.same("undo(40)", x.undo(40), 40)).get().look(0), 0);
        Check.same("from five frames to four", after(() -> fiveDeep(), x -> Check.same("undo(1)", x.undo(1), 1)).get().look(0), 4);
    }

    /** Taking n back from the end gives what was seen n orders before, and doing them again what was seen at the end. */
    private static void takenBackAnywhere(Supplier<Used> made, int due) {
        String[] seen = new String[due + 1];
        for (int orders = 0; orders <= due; orders++) {
            int n = orders;
            seen[orders] = all(after(made, x -> steps(x, n)));
        }
        Supplier<Used> ended = after(made, x -> steps(x, due));
        Check.same("halted", ended.get().look(4), -1);
        Check.same("conserve", ended.get().conserve(), 0);
        for (int i = 1; i <= due; i++) {
            int n = i;
            Supplier<Used> back = after(ended, x -> Check.same("undo(" + n + ")", x.undo(n), n));
            Check.same(n + " taken back", all(back), seen[due - n]);
            Check.same(n + " done again", all(after(back, x -> steps(x, n))), seen[due]);
            Check.same(n + " taken back one by one", all(after(ended, x -> undoOneByOne(x, n))), seen[due - n]);
        }
    }

    private static void steps(Used x, int n) {
        for (int i = 0; i < n; i++) {
            x.step(1);
        }
    }

    private static void undoOneByOne(Used x, int n) {
        for (int i = 0; i < n; i++) {
            Check.same("undo(1)", x.undo(1), 1);
        }
    }

    private static void stopsCount() {
        Used x = booted(o(NUMBER, 2, 1), STOP);
        Check.same("step", x.step(9), -1);
        Check.same("a step of the halted one is no order", x.step(9), -1);
        Check.same("undo HALT", x.undo(1), 1);
        looksAre("HALT is next again", x, 0, 0, 1, 1, 0);
        Check.same("halts again", x.step(1), -1);
        Check.same("HALT and what was before", x.undo(3), 2);
        x = booted(o(NUMBER, 2, 1), o(NUMBER, 1, 1));
        Check.same("step", x.step(9), 3);
        Check.same("a step of the stopped one is no order", x.step(9), 3);
        Check.same("undo the fault", x.undo(1), 1);
        looksAre("the order with the fault is next again", x, 0, 0, 1, 1, 0);
        Check.same("undo what was before", x.undo(9), 1);
        registerIs("taken back", x, 2, 0, 0);
        x = after(() -> counted(40), y -> Check.same("no fault yet", y.look(4), 0)).get();
        Check.same("undo(40)", x.undo(40), 40);
        Used z = booted();
        Check.same("the fault of a machine without code", z.step(1), 5);
        Check.same("counts as one", z.undo(40), 1);
    }

    private static void atMostForty() {
        for (int orders : new int[] {39, 40, 41, 42, 79, 80, 81, 119, 120, 121, 300}) {
            int most = Math.min(orders, 40);
            Supplier<Used> back = after(() -> counted(orders), x -> Check.same("undo(40) after " + orders, x.undo(40), most));
            Check.same("as it was then", all(back), all(() -> counted(orders - most)));
            Check.same("no more of " + orders, back.get().undo(40), 0);
            Check.same("nor one by one", after(() -> counted(orders), x -> undoOneByOne(x, most)).get().undo(1), 0);
        }
        Used x = counted(50);
        Check.same("undo(10) after 50", x.undo(10), 10);
        Check.same("30 are left of the 40", x.undo(40), 30);
        Check.same("orders done", x.look(3), 10);
        Check.same("three more", x.step(3), 0);
        Check.same("the new ones alone", x.undo(40), 3);
        Check.same("orders done", x.look(3), 10);
        Check.same("forty more", x.step(30) + x.step(10), 0);
        Check.same("the new ones alone", x.undo(40), 40);
        Check.same("orders done", x.look(3), 10);
    }

    private static void fewerThanN() {
        for (int n = 1; n <= 40; n++) {
            for (int orders : new int[] {0, 1, 20, 39, 40, 45}) {
                int due = Math.min(n, Math.min(orders, 40));
                Used x = counted(orders);
                Check.same("undo(" + n + ") after " + orders, x.undo(n), due);
                Check.same("orders done", x.look(3), orders - due);
            }
        }
        Check.same("all is as at boot", all(after(() -> counted(5), x -> x.undo(6))), all(Promise05Test::counter));
    }

    private static void wrongN() {
        for (int n : outside(1, 40)) {
            Check.same("undo(" + n + ")", counted(5).undo(n), -1);
            Check.same("undo(" + n + ") of a new one", new Used().undo(n), -1);
            Check.same("undo(" + n + ") at boot", counter().undo(n), -1);
            Check.same("undo(" + n + ") after a second boot", after(() -> counted(5), Used::boot).get().undo(n), -1);
            changesNothing("undo(" + n + ")", () -> counted(50), x -> x.undo(n));
            changesNothing("undo(" + n + ") after HALT", after(() -> booted(CUT, STOP), x -> x.step(2)), x -> x.undo(n));
        }
        Check.same("the least n", counted(50).undo(1), 1);
        Check.same("the greatest n", counted(50).undo(40), 40);
    }

    private static void nothingToTakeBack() {
        for (int n : new int[] {1, 2, 40}) {
            Check.same("undo(" + n + ") of a new one", new Used().undo(n), 0);
            Check.same("undo(" + n + ") at boot", counter().undo(n), 0);
            Check.same("undo(" + n + ") after undo of all", after(() -> counted(5), x -> x.undo(5)).get().undo(n), 0);
            Check.same("undo(" + n + ") after a second boot", after(() -> counted(5), Used::boot).get().undo(n), 0);
            changesNothing("undo(" + n + ") at boot", Promise05Test::counter, x -> x.undo(n));
            changesNothing("undo(" + n + ") of a new one", Used::new, x -> x.undo(n));
            changesNothing("undo(" + n + ") after undo of all", after(() -> counted(5), x -> x.undo(5)), x -> x.undo(n));
        }
    }

    /** A machine whose stop was taken back runs again. */
    private static void runsOn() {
        Used x = booted(o(NUMBER, 2, 1), o(ZERO, 3, 3), o(NUMBER, 4, 4), STOP);
        Check.same("step", x.step(30), -1);
        Check.same("undo", x.undo(2), 2);
        Check.same("runs again", x.look(4), 0);
        Check.same("step", x.step(1), 0);
        Check.same("the order that is next", x.look(2), 3);
        Check.same("halts again", x.step(1), -1);
        Check.same("orders done", x.look(3), 3);
        faults("a fault comes again", 3, after(() -> booted(CUT, o(NUMBER, 2, 0)), y -> {
            Check.same("step", y.step(30), 3);
            Check.same("undo", y.undo(1), 1);
        }));
    }
}
