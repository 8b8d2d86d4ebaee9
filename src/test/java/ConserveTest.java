import java.lang.reflect.Field;

/**
 * Promise 14: conserve looks at the places. No run of calls can lose or double a right, so the state
 * inside is spoilt here by hand.
 */
public final class ConserveTest {
    private static final long HALF_READ = 1L << 32 | 1L << 16 | 24L << 8;

    public static void main(String[] args) throws ReflectiveOperationException {
        UseOnceMachine x = shared();
        Check.same("unspoilt", x.conserve(), 0);
        places(x)[1] = 0;
        Check.same("all rights to the words from 0 are lost", x.conserve(), 1);
        x = shared();
        places(x)[3] = 0;
        Check.same("some rights to the words from 16 are lost", x.conserve(), 17);
        x = shared();
        places(x)[6] = HALF_READ;
        Check.same("read is doubled from 0", x.conserve(), 1);
        x = shared();
        places(x)[6] = HALF_READ + 20;
        Check.same("read is doubled from 20, by a cell and a register", x.conserve(), 21);
        x = shared();
        counts(x)[0] = 1;
        Check.same("a count is too low", x.conserve(), 100);
        x = shared();
        counts(x)[4] = 1;
        Check.same("a count of a cell that nothing holds", x.conserve(), 104);
        counts(x)[0] = 3;
        Check.same("the first of two", x.conserve(), 100);
        places(x)[3] = 0;
        Check.same("words come before cells", x.conserve(), 17);
        Check.same("the booted one again", x.boot(), false);
        counts(x)[0] = 3;
        Check.same("not booted", x.conserve(), 0);
        Check.end();
    }

    /** R 1 has all rights to 0 .. 15; read of the others is shared by R 2 and R 4; R 3 has the rest. */
    private static UseOnceMachine shared() {
        return Machines.ran(Machines.o(Machines.SPLIT, 1, 2, 16), Machines.o(Machines.RESTRICT, 2, 3, 1),
            Machines.o(Machines.FREEZE, 2), Machines.o(Machines.MOVE, 4, 2));
    }

    private static long[] places(UseOnceMachine x) throws ReflectiveOperationException {
        return (long[]) inside(state(x), "places");
    }

    private static int[] counts(UseOnceMachine x) throws ReflectiveOperationException {
        return (int[]) inside(state(x), "counts");
    }

    private static Object state(UseOnceMachine x) throws ReflectiveOperationException {
        return inside(x, "state");
    }

    private static Object inside(Object of, String name) throws ReflectiveOperationException {
        Field field = of.getClass().getDeclaredField(name);
        field.setAccessible(true);
        return field.get(of);
    }
}
