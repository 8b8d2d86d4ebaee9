/**
 * All answers of the calls that only look, of a machine or of the model, as text. They are more
 * than the calls that one object is good for, so the text has two halves.
 */
final class Seen {
    static final int HALVES = 2;

    /** The calls that only look: the machine itself can't implement an interface of the tests. */
    interface Looks {
        int register(int r, int field);

        int word(int address, int field);

        int look(int what);

        int owner(int address, int right);

        int count(int cell);

        int gate(int g, int field);

        int reach();

        boolean reaches(int address);

        int conserve();
    }

    private Seen() {
    }

    /** All but the orders done and the stop. */
    static String places(Looks x, int half) {
        return half == 0 ? held(x) : owned(x);
    }

    static String all(Looks x, int half) {
        return places(x, half) + " done " + x.look(3) + " stop " + x.look(4);
    }

    private static String held(Looks x) {
        StringBuilder text = new StringBuilder();
        for (int r = 0; r < 8; r++) {
            text.append(" R").append(r);
            for (int f = 0; f < 5; f++) {
                text.append(' ').append(x.register(r, f));
            }
        }
        for (int w = 0; w < 48; w++) {
            text.append(" W").append(w);
            for (int f = 0; f < 5; f++) {
                text.append(' ').append(x.word(w, f));
            }
        }
        for (int i = 0; i < 6; i++) {
            text.append(" C").append(i).append(' ').append(x.count(i)).append(" G").append(i);
            text.append(' ').append(x.gate(i, 0)).append(' ').append(x.gate(i, 1)).append(' ').append(x.gate(i, 2));
        }
        text.append(" L ").append(x.look(0)).append(' ').append(x.look(1)).append(' ').append(x.look(2));
        return text.append(" S ").append(x.look(5)).append(' ').append(x.look(6)).append(' ').append(x.look(7)).toString();
    }

    private static String owned(Looks x) {
        StringBuilder text = new StringBuilder();
        for (int w = 0; w < 48; w++) {
            text.append(" O").append(w);
            for (int right = 1; right <= 8; right *= 2) {
                text.append(' ').append(x.owner(w, right));
            }
            text.append(x.reaches(w) ? " yes" : " no");
        }
        return text.append(" reach ").append(x.reach()).append(" conserve ").append(x.conserve()).toString();
    }
}
