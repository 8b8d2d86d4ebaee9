/** All answers of the calls that only look, of a machine or of the model, as one text. */
final class Seen {
    /** The calls that only look: the machine itself can't implement an interface of the tests. */
    interface Looks {
        int register(int r, int field);

        int word(int address, int field);

        int look(int what);

        int owner(int address, int right);

        int count(int cell);

        int gate(int g, int field);

        int reach();

        boolean reaches(int address);

        int conserve();
    }

    private record Machine(UseOnceMachine x) implements Looks {
        @Override
        public int register(int r, int field) {
            return x.register(r, field);
        }

        @Override
        public int word(int address, int field) {
            return x.word(address, field);
        }

        @Override
        public int look(int what) {
            return x.look(what);
        }

        @Override
        public int owner(int address, int right) {
            return x.owner(address, right);
        }

        @Override
        public int count(int cell) {
            return x.count(cell);
        }

        @Override
        public int gate(int g, int field) {
            return x.gate(g, field);
        }

        @Override
        public int reach() {
            return x.reach();
        }

        @Override
        public boolean reaches(int address) {
            return x.reaches(address);
        }

        @Override
        public int conserve() {
            return x.conserve();
        }
    }

    private Seen() {
    }

    static Looks of(UseOnceMachine x) {
        return new Machine(x);
    }

    /** All but the orders done and the stop. */
    static String places(Looks x) {
        StringBuilder text = new StringBuilder();
        for (int r = 0; r < 8; r++) {
            text.append(" R").append(r);
            for (int f = 0; f < 5; f++) {
                text.append(' ').append(x.register(r, f));
            }
        }
        for (int w = 0; w < 48; w++) {
            text.append(" W").append(w);
            for (int f = 0; f < 5; f++) {
                text.append(' ').append(x.word(w, f));
            }
            for (int right = 1; right <= 8; right *= 2) {
                text.append(' ').append(x.owner(w, right));
            }
            text.append(x.reaches(w) ? " yes" : " no");
        }
        for (int i = 0; i < 6; i++) {
            text.append(" C").append(i).append(' ').append(x.count(i)).append(" G").append(i);
            text.append(' ').append(x.gate(i, 0)).append(' ').append(x.gate(i, 1)).append(' ').append(x.gate(i, 2));
        }
        text.append(" L ").append(x.look(0)).append(' ').append(x.look(1)).append(' ').append(x.look(2));
        text.append(" S ").append(x.look(5)).append(' ').append(x.look(6)).append(' ').append(x.look(7));
        return text.append(" reach ").append(x.reach()).append(" conserve ").append(x.conserve()).toString();
    }

    static String all(Looks x) {
        return places(x) + " done " + x.look(3) + " stop " + x.look(4);
    }
}
