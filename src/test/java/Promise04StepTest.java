/** Promise 4: step itself; its orders, faults and calls have tests of their own. */
public final class Promise04StepTest extends Machines {
    private static final int[] AGAIN = o(JUMP, 0);

    public static void main(String[] args) {
        Sentence.holds("4.1", "Up to n orders:", Promise04StepTest::upToN);
        Sentence.holds("4.2", "0 if it still runs", Promise04StepTest::stillRuns);
        Sentence.holds("4.3", "-1 if it has halted", Promise04StepTest::halted);
        Sentence.holds("4.4", "else the fault's code;", Promise04StepTest::faultsCode);
        Sentence.holds("4.5", "-2, refused, if n is not 1 .. 30", Promise04StepTest::wrongN);
        Sentence.holds("4.6", "or it is not booted.", Promise04StepTest::notBooted);
        Sentence.holds("4.7", "An order with a fault has no effect but that the machine STOPS with it;", Promise04StepTest::stops);
        Sentence.holds("4.8", "it runs no more then, nor after HALT.", Promise04StepTest::runsNoMore);
        Check.end();
    }

    private static void upToN() {
        for (int n = 1; n <= 30; n++) {
            Used x = booted(AGAIN);
            Check.same("step(" + n + ")", x.step(n), 0);
            Check.same("orders done by step(" + n + ")", x.look(3), n);
        }
        Used x = booted(o(NUMBER, 2, 1), STOP, o(NUMBER, 2, 2));
        Check.same("fewer, if it halts", x.step(30), -1);
        Check.same("orders done", x.look(3), 2);
        registerIs("not those behind HALT", x, 2, 0, 1);
        x = booted(o(NUMBER, 2, 1), o(NUMBER, 1, 0), o(NUMBER, 2, 2));
        Check.same("fewer, if there is a fault", x.step(30), 3);
        Check.same("orders done", x.look(3), 2);
        registerIs("not those behind the fault", x, 2, 0, 1);
        Check.same("what one step does, three do", all(after(() -> booted(CUT, READ_ONLY, FROZEN), y -> y.step(3))),
            all(() -> ran(CUT, READ_ONLY, FROZEN)));
    }

    private static void stillRuns() {
        Used x = booted(AGAIN);
        for (int i = 0; i < 100; i++) {
            Check.same("step(30)", x.step(30), 0);
        }
        Check.same("orders done", x.look(3), 3000);
        x = booted(times(24, o(NUMBER, 2, 1)));
        Check.same("all 24 orders, and none behind them yet", x.step(24), 0);
        Check.same("look(4)", x.look(4), 0);
    }

    private static void halted() {
        Check.same("HALT as the first", booted(STOP).step(1), -1);
        Check.same("HALT as the n-th", booted(o(NUMBER, 2, 1), STOP).step(2), -1);
        Check.same("HALT behind the n-th", booted(o(NUMBER, 2, 1), STOP).step(1), 0);
        Check.same("HALT as the last of 24", booted(joined(times(23, o(NUMBER, 2, 1)), STOP)).step(24), -1);
        Check.same("HALT in a called module", after(() -> booted(rows(CUT, SEALED, o(CALL, 2, 0)), rows(STOP), NO_CODE),
            x -> Check.same("step", x.step(30), -1)).get().look(0), 1);
    }

    private static void faultsCode() {
        int[] fault = o(NUMBER, 1, 0);
        Check.same("as the first", booted(fault).step(1), 3);
        Check.same("as the n-th", booted(CUT, fault).step(2), 3);
        Check.same("behind the n-th", booted(CUT, fault).step(1), 0);
        int[][] orders = {o(ADD, 0, 1), o(LOAD, 0, 1, 48), o(MOVE, 1, 0), o(MERGE, 1, 1), o(19)};
        for (int i = 0; i < orders.length; i++) {
            Check.same("the code", booted(orders[i]).step(30), i + 1);
        }
        Check.same("the code", booted(CUT, READ_ONLY, FROZEN, o(DROP, 2)).step(30), 6);
        Check.same("the code", booted(joined(sixGates(), o(SEAL, 7, 0, 0))).step(30), 7);
        Check.same("the code", booted(BACK).step(30), 8);
    }

    private static void wrongN() {
        for (int n : outside(1, 30)) {
            Check.same("step(" + n + ")", booted(AGAIN).step(n), -2);
            Check.same("step(" + n + ") of a new one", new Used().step(n), -2);
            Check.same("step(" + n + ") after HALT", after(() -> booted(STOP), x -> x.step(1)).get().step(n), -2);
            Check.same("step(" + n + ") after a fault", after(() -> booted(BACK), x -> x.step(1)).get().step(n), -2);
            changesNothing("step(" + n + ")", () -> ran(CUT, o(NUMBER, 3, 4)), x -> x.step(n));
            changesNothing("step(" + n + ") after HALT", after(() -> booted(CUT, STOP), x -> x.step(2)), x -> x.step(n));
        }
        Check.same("the least n", booted(AGAIN).step(1), 0);
        Check.same("the greatest n", booted(AGAIN).step(30), 0);
    }

    private static void notBooted() {
        for (int n : new int[] {1, 2, 30}) {
            Check.same("step(" + n + ") of a new one", new Used().step(n), -2);
            changesNothing("step(" + n + ") with code", Promise04StepTest::written, x -> x.step(n));
            Check.same("step(" + n + ") after a second boot", after(() -> ran(CUT), Used::boot).get().step(n), -2);
        }
    }

    private static Used written() {
        Used x = new Used();
        write(x, 0, CUT, STOP);
        return x;
    }

    private static void stops() {
        lastFaults("a fault at boot", 3, o(NUMBER, 1, 0));
        lastFaults("a fault behind others", 3, CUT, READ_ONLY, FROZEN, o(STORE, 2, 1, 3), o(STORE, 2, 1, 3));
        faults("a fault in a called module", 8, () -> fiveDeep(BACK));
        Used x = booted(CUT, o(NUMBER, 2, 0), o(NUMBER, 5, 5));
        Check.same("step", x.step(30), 3);
        looksAre("the order with the fault is where it was", x, 0, 0, 1, 2, 3);
    }

    private static void runsNoMore() {
        Used x = booted(o(NUMBER, 2, 1), STOP, o(NUMBER, 2, 2));
        Used y = booted(o(NUMBER, 2, 1), BACK, o(NUMBER, 2, 2));
        Check.same("step", x.step(2), -1);
        Check.same("step", y.step(2), 8);
        for (int n = 1; n <= 30; n++) {
            Check.same("after HALT", x.step(n), -1);
            Check.same("after a fault", y.step(n), 8);
        }
        Check.same("orders done", x.look(3), 2);
        Check.same("orders done", y.look(3), 2);
        registerIs("after HALT", x, 2, 0, 1);
        registerIs("after a fault", y, 2, 0, 1);
        changesNothing("step after HALT", after(() -> booted(CUT, STOP), z -> z.step(2)), z -> z.step(30));
        changesNothing("step after a fault", after(() -> booted(CUT, BACK), z -> z.step(2)), z -> z.step(30));
    }
}
