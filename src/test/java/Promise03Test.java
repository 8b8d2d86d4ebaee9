import java.util.List;
import java.util.function.Supplier;

/** Promise 3: boot. */
public final class Promise03Test extends Machines {
    /** A machine in each state that a boot may meet; the deepest has cells, gates and frames in use. */
    private static final List<Supplier<Used>> BOOTED = List.of(
        () -> booted(),
        () -> booted(CUT, STOP),
        () -> ran(CUT, READ_ONLY, FROZEN, o(STORE, 2, 1, 4), o(NUMBER, 7, -1)),
        after(() -> booted(STOP), x -> x.step(1)),
        after(() -> booted(BACK), x -> x.step(1)),
        after(() -> ran(CUT, SEALED, o(STORE, 2, 1, 4)), x -> x.undo(1)),
        () -> fiveDeep(o(RESTRICT, 7, 3, 1), o(FREEZE, 7)),
        after(() -> fiveDeep(o(RESTRICT, 7, 3, 1), o(FREEZE, 7)), x -> x.step(2)));

    public static void main(String[] args) {
        Sentence.holds("3.1", "Boots, if it is not: true, then;", Promise03Test::boots);
        Sentence.holds("3.2", "At BOOT register 1 holds an exclusive capability to all words with all rights;", Promise03Test::registerOne);
        Sentence.holds("3.3", "module 0 runs from its order 0, the DEPTH is 0.", Promise03Test::whereItRuns);
        Sentence.holds("3.4", "else all is as at first again", Promise03Test::asAtFirst);
        Sentence.holds("3.5", "code gone: false.", Promise03Test::codeGone);
        Sentence.holds("3.6", "boolean boot()", Promise03Test::bootedAnew);
        Check.end();
    }

    private static void boots() {
        Used x = new Used();
        for (int i = 0; i < 10; i++) {
            Check.same("boot " + i + " without code", x.boot(), i % 2 == 0);
            Check.same("step(1) tells whether it is booted", x.step(1), i % 2 == 0 ? 5 : -2);
        }
        x = new Used();
        write(x, 0, times(24, STOP));
        Check.same("boot with full code", x.boot(), true);
        Check.same("the code stays", x.look(5), 24);
    }

    private static void registerOne() {
        Used x = booted(STOP);
        for (int r = 0; r < 8; r++) {
            if (r == 1) {
                registerIs("at boot", x, r, 1, 0, 48, 15, 0);
            } else {
                registerIs("at boot", x, r, 0, 0, 0, 0, 0);
            }
        }
        for (int right = 1; right <= 8; right *= 2) {
            Check.same("owner(0, " + right + ")", x.owner(0, right), 1);
            Check.same("owner(47, " + right + ")", x.owner(47, right), 1);
        }
        Check.same("reach", x.reach(), 48);
        Check.same("conserve", x.conserve(), 0);
    }

    private static void whereItRuns() {
        Used x = booted(rows(o(NUMBER, 2, 10), STOP), rows(o(NUMBER, 2, 20)), rows(o(NUMBER, 2, 30)));
        looksAre("at boot", x, 0, 0, 0, 0, 0, 2, 1, 1);
        Check.same("step", x.step(1), 0);
        registerIs("module 0's order 0", x, 2, 0, 10);
        x = booted(NO_CODE, rows(STOP), rows(STOP));
        Check.same("not another module's, if module 0 has none", x.step(1), 5);
    }

    private static void asAtFirst() {
        String fresh = all(Used::new);
        for (Supplier<Used> made : BOOTED) {
            Supplier<Used> off = after(made, x -> Check.same("boot again", x.boot(), false));
            Check.same("all is as at first", all(off), fresh);
            Check.same("nothing to take back", off.get().undo(40), 0);
            Check.same("nor is anything old brought back", all(after(off, x -> x.undo(40))), fresh);
            Check.same("not booted", off.get().step(1), -2);
            Check.same("conserve", off.get().conserve(), 0);
        }
    }

    private static void codeGone() {
        Used x = booted(times(24, STOP), times(24, STOP), times(24, STOP));
        Check.same("boot again", x.boot(), false);
        for (int m = 0; m < 3; m++) {
            Check.same("orders of module " + m, x.look(5 + m), 0);
            for (int i = 0; i < 24; i++) {
                Check.same("code from 0 again", x.code(m, NUMBER, 0, i, 0), i);
            }
        }
        x = booted(STOP);
        Check.same("boot again", x.boot(), false);
        Check.same("boot without code", x.boot(), true);
        Check.same("the old order is not there", x.step(1), 5);
    }

    /** A second boot is as the first one, whatever was before. */
    private static void bootedAnew() {
        String fresh = all(() -> ran(o(NUMBER, 3, 9)));
        for (Supplier<Used> made : BOOTED) {
            Supplier<Used> anew = after(made, x -> {
                Check.same("boot again", x.boot(), false);
                write(x, 0, o(NUMBER, 3, 9));
                Check.same("boot anew", x.boot(), true);
                Check.same("nothing to take back at boot", x.undo(40), 0);
                Check.same("step", x.step(1), 0);
            });
            Check.same("booted anew", all(anew), fresh);
            Check.same("the one order done", anew.get().undo(40), 1);
            Check.same("taken back", all(after(anew, x -> x.undo(40))), all(() -> booted(o(NUMBER, 3, 9))));
        }
    }
}
