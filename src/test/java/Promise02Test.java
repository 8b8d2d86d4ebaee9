/** Promise 2: code. */
public final class Promise02Test extends Machines {
    public static void main(String[] args) {
        Sentence.holds("2.1", "MODULES 0 .. 2", Promise02Test::firstAndLastModule);
        Sentence.holds("2.2", "A CODE of a module is a row of at most 24 ORDERS, numbered from 0.", Promise02Test::rowsOf24);
        Sentence.holds("2.3", "One more order of a module: its number;", Promise02Test::anyOrderIsTaken);
        Sentence.holds("2.4", "-1, refused, if there is no such module", Promise02Test::noSuchModule);
        Sentence.holds("2.5", "it has 24", Promise02Test::full);
        Sentence.holds("2.6", "or it is booted.", Promise02Test::whileBooted);
        Sentence.holds("2.7", "A call that is refused changes nothing.", Promise02Test::refusedOrderIsNowhere);
        Check.end();
    }

    private static void firstAndLastModule() {
        Used x = new Used();
        for (int m = 0; m <= 2; m++) {
            Check.same("code in module " + m, x.code(m, HALT, 0, 0, 0), 0);
            for (int other = 0; other <= 2; other++) {
                Check.same("orders of module " + other, x.look(5 + other), other <= m ? 1 : 0);
            }
        }
    }

    private static void rowsOf24() {
        Used x = new Used();
        for (int m = 0; m < 3; m++) {
            for (int i = 0; i < 24; i++) {
                Check.same("code in module " + m, x.code(m, NUMBER, 0, 100 * m + i, 0), i);
                Check.same("orders of module " + m, x.look(5 + m), i + 1);
            }
        }
        Check.same("boot", x.boot(), true);
        for (int i = 0; i < 24; i++) {
            Check.same("the order " + i, x.step(1), 0);
            registerIs("the order " + i, x, 0, 0, i);
        }
        Check.same("behind the last", x.step(1), 5);
    }

    /** An order with wrong numbers is taken: the fault comes when it is to be done. */
    private static void anyOrderIsTaken() {
        Used x = new Used();
        Check.same("wrong operation", x.code(1, -5, 99, -99, MOST), 0);
        Check.same("wrong register", x.code(1, NUMBER, LEAST, 0, 0), 1);
        Check.same("the greatest numbers", x.code(1, MOST, MOST, MOST, MOST), 2);
        Check.same("the least numbers", x.code(1, LEAST, LEAST, LEAST, LEAST), 3);
        Check.same("orders", x.look(6), 4);
    }

    private static void noSuchModule() {
        for (int m : outside(0, 2)) {
            Check.same("code in module " + m, new Used().code(m, HALT, 0, 0, 0), -1);
            changesNothing("code in module " + m, Promise02Test::oneEach, x -> x.code(m, HALT, 0, 0, 0));
            Check.same("code in module " + m + ", booted", booted(STOP).code(m, HALT, 0, 0, 0), -1);
        }
    }

    private static Used oneEach() {
        Used x = new Used();
        for (int m = 0; m < 3; m++) {
            Check.same("code", x.code(m, NUMBER, 2 + m, 7, 0), 0);
        }
        return x;
    }

    private static void full() {
        for (int m = 0; m < 3; m++) {
            int module = m;
            Used x = fullModule(m);
            Check.same("the 25th", x.code(m, HALT, 0, 0, 0), -1);
            Check.same("and again", x.code(m, HALT, 0, 0, 0), -1);
            Check.same("orders", x.look(5 + m), 24);
            Check.same("another module has room", x.code((m + 1) % 3, HALT, 0, 0, 0), 0);
            changesNothing("the 25th", () -> fullModule(module), y -> y.code(module, HALT, 0, 0, 0));
        }
    }

    private static Used fullModule(int m) {
        Used x = new Used();
        write(x, m, times(24, o(NUMBER, 3, 5)));
        return x;
    }

    private static void whileBooted() {
        for (int m = 0; m < 3; m++) {
            int module = m;
            Check.same("at boot", booted().code(m, HALT, 0, 0, 0), -1);
            Check.same("orders", booted().look(5 + m), 0);
            Used x = booted(o(NUMBER, 2, 1), STOP);
            Check.same("step", x.step(1), 0);
            Check.same("while it runs", x.code(m, HALT, 0, 0, 0), -1);
            Check.same("step", x.step(1), -1);
            Check.same("halted", x.code(m, HALT, 0, 0, 0), -1);
            Check.same("stopped by a fault", after(() -> booted(BACK), y -> y.step(1)).get().code(m, HALT, 0, 0, 0), -1);
            changesNothing("code while booted", () -> ran(o(NUMBER, 2, 1)), y -> y.code(module, HALT, 0, 0, 0));
            Check.same("boot again", x.boot(), false);
            Check.same("not booted any more", x.code(m, HALT, 0, 0, 0), 0);
        }
    }

    /** A row that is full must not run on into the next one, nor a missing module's into another. */
    private static void refusedOrderIsNowhere() {
        Used x = new Used();
        write(x, 1, o(NUMBER, 2, 11), STOP);
        write(x, 0, times(23, o(NUMBER, 3, 5)));
        Check.same("the 24th", x.code(0, JUMP, 0, 0, 0), 23);
        Check.same("the 25th", x.code(0, NUMBER, 4, 9, 0), -1);
        for (int m : outside(0, 2)) {
            Check.same("code in module " + m, x.code(m, NUMBER, 4, 9, 0), -1);
        }
        Check.same("the next in module 1", x.code(1, NUMBER, 5, 6, 0), 2);
        Check.same("boot", x.boot(), true);
        Check.same("all 24", x.step(24), 0);
        Check.same("the 24th was done", x.look(2), 0);
        registerIs("the refused one was not", x, 4, 0, 0);
        x = new Used();
        write(x, 1, o(NUMBER, 0, 11), BACK);
        write(x, 0, CUT, SEALED, o(CALL, 2, 0), STOP);
        write(x, 0, 4, times(20, o(NUMBER, 3, 5)));
        Check.same("the 25th", x.code(0, NUMBER, 0, 9, 0), -1);
        Check.same("boot", x.boot(), true);
        Check.same("step", x.step(30), -1);
        registerIs("what module 1 answered", x, 0, 0, 11);
    }

    private static void write(Used x, int module, int from, int[][] orders) {
        for (int i = 0; i < orders.length; i++) {
            int[] order = orders[i];
            Check.same("code", x.code(module, order[0], order[1], order[2], order[3]), from + i);
        }
    }
}
