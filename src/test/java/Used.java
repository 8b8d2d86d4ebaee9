/** A machine under test. It counts its calls: the document promises nothing after the 512th. */
final class Used implements Seen.Looks {
    private static final int MOST_CALLS = 512;

    private final UseOnceMachine machine = new UseOnceMachine();
    private int calls = 0;

    private UseOnceMachine counted() {
        calls++;
        if (calls > MOST_CALLS) {
            throw new IllegalStateException("a test may not use an object for more than 512 calls");
        }
        return machine;
    }

    int calls() {
        return calls;
    }

    /** For the test that spoils what is inside. */
    UseOnceMachine machine() {
        return machine;
    }

    int code(int module, int operation, int a, int b, int c) {
        return counted().code(module, operation, a, b, c);
    }

    boolean boot() {
        return counted().boot();
    }

    int step(int n) {
        return counted().step(n);
    }

    int undo(int n) {
        return counted().undo(n);
    }

    @Override
    public int register(int r, int field) {
        return counted().register(r, field);
    }

    @Override
    public int word(int address, int field) {
        return counted().word(address, field);
    }

    @Override
    public int look(int what) {
        return counted().look(what);
    }

    @Override
    public int owner(int address, int right) {
        return counted().owner(address, right);
    }

    @Override
    public int count(int cell) {
        return counted().count(cell);
    }

    @Override
    public int gate(int g, int field) {
        return counted().gate(g, field);
    }

    @Override
    public int reach() {
        return counted().reach();
    }

    @Override
    public boolean reaches(int address) {
        return counted().reaches(address);
    }

    @Override
    public int conserve() {
        return counted().conserve();
    }
}
