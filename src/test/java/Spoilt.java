import java.lang.reflect.Field;
import java.util.function.Consumer;

/**
 * A machine whose state is spoilt by hand. No run of calls can lose or double a right, so what the
 * document says of such a state can be seen in no other way. It leaves the inside free: where the
 * class holds its state otherwise than here, nothing can be spoilt.
 */
final class Spoilt {
    private Spoilt() {
    }

    /** Where the rows of places begin that stand behind the registers. */
    static final int WORDS_AT = 8;
    static final int FRAMES_AT = WORDS_AT + 48;

    static boolean canBe() {
        Object state = inside(new UseOnceMachine(), "state");
        boolean known = inside(state, "places") instanceof long[] && inside(state, "counts") instanceof int[];
        if (!known) {
            System.out.println("  NOT TRIED: the class holds its state in another way, which this test can't spoil");
        }
        return known;
    }

    static Used places(Used x, Consumer<long[]> change) {
        change.accept((long[]) inside(inside(x.machine(), "state"), "places"));
        return x;
    }

    static Used counts(Used x, Consumer<int[]> change) {
        change.accept((int[]) inside(inside(x.machine(), "state"), "counts"));
        return x;
    }

    /** An exclusive capability with read alone, as the class packs it. */
    static long read(int from, int end) {
        return 1L << 32 | 1L << 16 | (long) end << 8 | from;
    }

    /** The same shared capability with another cell. */
    static long withCell(long shared, int cell) {
        return shared & ~(255L << 24) | (long) cell << 24;
    }

    private static Object inside(Object of, String name) {
        if (of == null) {
            return null;
        }
        try {
            Field field = of.getClass().getDeclaredField(name);
            field.setAccessible(true);
            return field.get(of);
        } catch (ReflectiveOperationException e) {
            return null;
        }
    }
}
