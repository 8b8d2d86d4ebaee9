/** Promise 5: undo. */
public final class UndoTest {
    public static void main(String[] args) {
        refused();
        nothingToTakeBack();
        atMostForty();
        lessAfterTakingBack();
        stopsAreTakenBack();
        everyOrderIsTakenBack();
        framesAreTakenBack();
        Check.end();
    }

    private static UseOnceMachine counter() {
        return Machines.booted(Machines.o(Machines.NUMBER, 2, 1), Machines.o(Machines.ADD, 3, 2), Machines.o(Machines.JUMP, 1));
    }

    private static void refused() {
        UseOnceMachine x = counter();
        x.step(30);
        String before = Machines.all(x);
        int[] wrong = {0, -1, 41, Integer.MIN_VALUE, Integer.MAX_VALUE};
        for (int n : wrong) {
            Check.same("undo(" + n + ")", x.undo(n), -1);
            Check.same("undo(" + n + ") changes nothing", Machines.all(x), before);
            Check.same("undo(" + n + ") before the boot", new UseOnceMachine().undo(n), -1);
        }
    }

    private static void nothingToTakeBack() {
        UseOnceMachine x = counter();
        Check.same("undo at boot", x.undo(40), 0);
        Check.same("step", x.step(5), 0);
        Check.same("undo more than were", x.undo(6), 5);
        Check.same("as at boot", Machines.all(x), Machines.all(counter()));
        Check.same("undo again", x.undo(1), 0);
        Check.same("step again", x.step(5), 0);
        Machines.registerIs("after steps again", x, 3, 0, 2);
    }

    private static void atMostForty() {
        UseOnceMachine x = counter();
        for (int done = 30; done <= 270; done += 30) {
            x.step(30);
            Check.same("done", x.look(3), done);
        }
        UseOnceMachine y = counter();
        for (int i = 0; i < 23; i++) {
            y.step(10);
        }
        Check.same("undo(40)", x.undo(40), 40);
        Check.same("as 40 orders before", Machines.all(x), Machines.all(y));
        Check.same("no more to take back", x.undo(1), 0);
    }

    private static void lessAfterTakingBack() {
        UseOnceMachine x = counter();
        x.step(30);
        x.step(20);
        Check.same("undo(15)", x.undo(15), 15);
        Check.same("done", x.look(3), 35);
        Check.same("undo(26)", x.undo(26), 25);
        Check.same("done", x.look(3), 10);
        x.step(3);
        Check.same("the new ones alone", x.undo(40), 3);
        Check.same("done", x.look(3), 10);
    }

    private static void stopsAreTakenBack() {
        UseOnceMachine x = Machines.booted(Machines.o(Machines.NUMBER, 2, 1), Machines.o(Machines.HALT));
        Check.same("step", x.step(9), -1);
        Check.same("a step of the stopped is no order", x.step(9), -1);
        Check.same("undo HALT", x.undo(1), 1);
        Check.same("runs", x.look(4), 0);
        Check.same("HALT is next", x.look(2), 1);
        Check.same("done", x.look(3), 1);
        Check.same("halts again", x.step(1), -1);
        x = Machines.booted(Machines.o(Machines.NUMBER, 2, 1), Machines.o(Machines.NUMBER, 1, 1));
        Check.same("step", x.step(9), 3);
        Check.same("undo the fault", x.undo(1), 1);
        Check.same("runs", x.look(4), 0);
        Check.same("undo", x.undo(9), 1);
        Machines.registerIs("taken back", x, 2, 0, 0);
    }

    /** A run through all kinds of orders: taking n back gives what was seen n orders before. */
    private static void everyOrderIsTakenBack() {
        int[][] caller = Machines.rows(Machines.o(4, 1, 2, 16), Machines.o(6, 2, 3, 1), Machines.o(7, 2), Machines.o(8, 2),
            Machines.o(5, 2, 3), Machines.o(6, 2, 3, 1), Machines.o(7, 2), Machines.o(1, 4, 2), Machines.o(11, 4, 1, 3),
            Machines.o(10, 5, 1, 3), Machines.o(9, 5), Machines.o(9, 4), Machines.o(4, 1, 4, 8), Machines.o(15, 4, 1, 3),
            Machines.o(11, 3, 1, 6), Machines.o(16, 4, 2), Machines.o(10, 3, 1, 6), Machines.o(10, 6, 1, 3), Machines.o(9, 6),
            Machines.o(12, 20), Machines.o(13, 5, 21), Machines.o(14, 5, 0, 22), Machines.o(18));
        int[][] callee = Machines.rows(Machines.o(0, 0, 9), Machines.o(2, 4, 0), Machines.o(11, 1, 7, 2), Machines.o(10, 1, 7, 2),
            Machines.o(3, 3, 0), Machines.o(17));
        takenBackAnywhere(Machines.booted(caller, callee, new int[0][]), 29);
    }

    /** Modules 1 and 2 call each other, so that a frame is used for a caller and then for another. */
    private static void framesAreTakenBack() {
        int[][] caller = Machines.rows(Machines.o(4, 1, 2, 8), Machines.o(4, 2, 3, 8), Machines.o(4, 3, 4, 8), Machines.o(15, 2, 1, 63),
            Machines.o(15, 3, 2, 63), Machines.o(0, 6, 1), Machines.o(16, 2, 6), Machines.o(16, 3, 6), Machines.o(18));
        int[][] first = Machines.rows(Machines.o(13, 6, 2), Machines.o(16, 3, 0), Machines.o(17));
        int[][] second = Machines.rows(Machines.o(13, 6, 3), Machines.o(16, 2, 1), Machines.o(0, 0, 4), Machines.o(17));
        takenBackAnywhere(Machines.booted(caller, first, second), 20);
    }

    private static void takenBackAnywhere(UseOnceMachine x, int due) {
        String[] seen = new String[40];
        int orders = 0;
        seen[0] = Machines.all(x);
        while (x.look(4) == 0 && orders < 39) {
            x.step(1);
            orders++;
            seen[orders] = Machines.all(x);
        }
        Check.same("conserve", x.conserve(), 0);
        Check.same("halted", x.look(4), -1);
        Check.same("orders done", orders, due);
        for (int n = 1; n <= orders; n++) {
            Check.same("undo(" + n + ")", x.undo(n), n);
            Check.same(n + " taken back", Machines.all(x), seen[orders - n]);
            for (int i = 0; i < n; i++) {
                x.step(1);
            }
            Check.same(n + " done again", Machines.all(x), seen[orders]);
        }
        for (int left = orders - 1; left >= 0; left--) {
            Check.same("undo(1)", x.undo(1), 1);
            Check.same("one by one", Machines.all(x), seen[left]);
        }
    }
}
