import java.util.Arrays;

/**
 * A machine whose registers and words hold numbers or rights to other words, none of which is ever
 * lost or doubled, and whose last orders can be taken back.
 */
public final class UseOnceMachine {
    private static final int REGISTERS = 8;
    private static final int WORDS = 48;
    private static final int MODULES = 3;
    private static final int GATES = 6;
    private static final int CELLS = 6;
    private static final int FRAMES = 5;
    private static final int MOST_ORDERS = 24;
    private static final int MOST_STEPS = 30;
    private static final int MOST_UNDONE = 40;

    /** The register in which a called module finds what its gate held. */
    private static final int GATE_REGISTER = 7;
    /** The highest register that a call can hand on. */
    private static final int LAST_PASSED = 6;
    private static final int MOST_PATTERN = 63;

    // The places stand in one row in the order of their owners' numbers, so that the first owner
    // found in it is the least.
    private static final int WORDS_AT = REGISTERS;
    private static final int FRAMES_AT = WORDS_AT + WORDS;
    private static final int GATES_AT = FRAMES_AT + FRAMES * REGISTERS;
    private static final int PLACES = GATES_AT + GATES;

    private static final int NUMBER = 0;
    private static final int EXCLUSIVE = 1;
    private static final int SHARED = 2;
    private static final int SEAL = 3;
    private static final int VALUE_FIELDS = 5;

    private static final int READ = 1;
    private static final int WRITE = 2;
    private static final int ALL_RIGHTS = 15;
    private static final int RIGHTS = 4;

    private static final int GATE_EMPTY = 0;
    private static final int GATE_CLOSED = 1;
    private static final int GATE_OPEN = 2;

    private static final int RUNNING = 0;
    private static final int HALTED = -1;
    private static final int NO_FAULT = 0;
    private static final int FAULT_KIND = 1;
    private static final int FAULT_RANGE = 2;
    private static final int FAULT_FULL = 3;
    private static final int FAULT_MERGE = 4;
    private static final int FAULT_ORDER = 5;
    private static final int FAULT_COUNT = 6;
    private static final int FAULT_NONE_LEFT = 7;
    private static final int FAULT_RETURN = 8;

    private final Code code = new Code();
    private final State state = new State();
    private final History history = new History();
    private final Processor processor = new Processor(code, state);
    private final Owners owners = new Owners(state);
    private final Reach reach = new Reach(state);
    private boolean booted = false;

    public UseOnceMachine() {
    }

    public int code(int module, int operation, int a, int b, int c) {
        return booted ? -1 : code.append(module, operation, a, b, c);
    }

    public boolean boot() {
        booted = !booted;
        history.clear();
        state.clear();
        if (booted) {
            state.put(1, Value.exclusive(0, WORDS, ALL_RIGHTS));
        } else {
            code.clear();
        }
        return booted;
    }

    public int step(int n) {
        if (!booted || n < 1 || n > MOST_STEPS) {
            return -2;
        }
        for (int i = 0; i < n && state.stop == RUNNING; i++) {
            history.keep(state);
            processor.runOne();
        }
        return state.stop;
    }

    public int undo(int n) {
        if (n < 1 || n > MOST_UNDONE) {
            return -1;
        }
        return history.takeBack(state, n);
    }

    public int register(int r, int field) {
        if (r < 0 || r >= REGISTERS || field < 0 || field >= VALUE_FIELDS) {
            return -1;
        }
        return Value.field(state.held(r), field);
    }

    public int word(int address, int field) {
        if (address < 0 || address >= WORDS || field < 0 || field >= VALUE_FIELDS) {
            return -1;
        }
        return Value.field(state.held(WORDS_AT + address), field);
    }

    public int look(int what) {
        switch (what) {
            case 0: return state.depth;
            case 1: return state.module;
            case 2: return state.order;
            case 3: return state.done;
            case 4: return state.stop;
            case 5: return code.size(0);
            case 6: return code.size(1);
            case 7: return code.size(2);
            default: return -1;
        }
    }

    public int owner(int address, int right) {
        boolean isRight = right == 1 || right == 2 || right == 4 || right == 8;
        if (address < 0 || address >= WORDS || !isRight) {
            return -1;
        }
        return owners.least(address, right);
    }

    public int count(int cell) {
        return cell < 0 || cell >= CELLS ? -1 : state.counts[cell];
    }

    public int gate(int g, int field) {
        if (g < 0 || g >= GATES) {
            return -1;
        }
        switch (field) {
            case 0: return state.gateStates[g];
            case 1: return state.gateModules[g];
            case 2: return state.gatePatterns[g];
            default: return -1;
        }
    }

    public int reach() {
        return reach.size();
    }

    public boolean reaches(int address) {
        return reach.contains(address);
    }

    public int conserve() {
        return booted ? owners.firstWrong() : 0;
    }

    /**
     * What a place holds, packed into one long so that no order has to make an object: the kind
     * above bit 31, below it the number, or from, end, rights and the cell or gate, a byte each.
     */
    private static final class Value {
        static final long ZERO = 0L;

        private Value() {
        }

        static long number(int n) {
            return n & 0xFFFFFFFFL;
        }

        static long exclusive(int from, int end, int rights) {
            return pack(EXCLUSIVE, from, end, rights, 0);
        }

        static long shared(int from, int end, int cell) {
            return pack(SHARED, from, end, READ, cell);
        }

        static long seal(int gate) {
            return pack(SEAL, 0, 0, 0, gate);
        }

        private static long pack(int kind, int from, int end, int rights, int link) {
            return (long) kind << 32 | (long) link << 24 | (long) rights << 16 | (long) end << 8 | from;
        }

        static int kind(long value) {
            return (int) (value >>> 32);
        }

        static int from(long value) {
            return (int) value & 255;
        }

        static int end(long value) {
            return (int) (value >>> 8) & 255;
        }

        static int rights(long value) {
            return (int) (value >>> 16) & 255;
        }

        /** The cell of a shared capability, the gate of a seal. */
        static int link(long value) {
            return (int) (value >>> 24) & 255;
        }

        static boolean isNumber(long value) {
            return kind(value) == NUMBER;
        }

        static boolean isCapability(long value) {
            return kind(value) == EXCLUSIVE || kind(value) == SHARED;
        }

        /** Whether := leaves nothing behind of it. */
        static boolean isMoved(long value) {
            return kind(value) == EXCLUSIVE || kind(value) == SEAL;
        }

        static boolean hasRight(long value, int right) {
            return isCapability(value) && (rights(value) & right) != 0;
        }

        static boolean covers(long value, int address) {
            return isCapability(value) && from(value) <= address && address < end(value);
        }

        static int length(long value) {
            return end(value) - from(value);
        }

        static int field(long value, int field) {
            if (isNumber(value)) {
                return field == 1 ? (int) value : 0;
            }
            switch (field) {
                case 0: return kind(value);
                case 1: return from(value);
                case 2: return end(value);
                case 3: return rights(value);
                default: return link(value);
            }
        }
    }

    /** The orders of all modules. */
    private static final class Code {
        private static final int FIELDS = 4;

        private final int[] orders = new int[MODULES * MOST_ORDERS * FIELDS];
        private final int[] sizes = new int[MODULES];

        void clear() {
            Arrays.fill(sizes, 0);
        }

        int size(int module) {
            return module < 0 || module >= MODULES ? 0 : sizes[module];
        }

        int append(int module, int operation, int a, int b, int c) {
            if (module < 0 || module >= MODULES || sizes[module] >= MOST_ORDERS) {
                return -1;
            }
            int number = sizes[module];
            int at = (module * MOST_ORDERS + number) * FIELDS;
            orders[at] = operation;
            orders[at + 1] = a;
            orders[at + 2] = b;
            orders[at + 3] = c;
            sizes[module] = number + 1;
            return number;
        }

        boolean has(int module, int order) {
            return order >= 0 && order < size(module);
        }

        /** Of an order: 0 its operation, 1 to 3 what stands behind it. */
        int part(int module, int order, int field) {
            if (!has(module, order) || field < 0 || field >= FIELDS) {
                return 0;
            }
            return orders[(module * MOST_ORDERS + order) * FIELDS + field];
        }
    }

    /** All that an order can change. */
    private static final class State {
        /** A frame's notes: of the gate's inside first, then of registers 1 to 6. */
        private static final int NOTES = 1 + LAST_PASSED;

        final long[] places = new long[PLACES];
        final long[] notes = new long[FRAMES * NOTES];
        final int[] counts = new int[CELLS];
        final int[] gateStates = new int[GATES];
        final int[] gateModules = new int[GATES];
        final int[] gatePatterns = new int[GATES];
        final int[] frameOrders = new int[FRAMES];
        final int[] frameModules = new int[FRAMES];
        final int[] frameGates = new int[FRAMES];
        final int[] framePassed = new int[FRAMES];
        int depth = 0;
        int module = 0;
        int order = 0;
        int done = 0;
        int stop = RUNNING;

        /** Frames' own rows may stay as they are: a call writes them before a return reads them. */
        void clear() {
            Arrays.fill(places, Value.ZERO);
            Arrays.fill(counts, 0);
            Arrays.fill(gateStates, GATE_EMPTY);
            Arrays.fill(gateModules, 0);
            Arrays.fill(gatePatterns, 0);
            depth = 0;
            module = 0;
            order = 0;
            done = 0;
            stop = RUNNING;
        }

        void copyFrom(State other) {
            System.arraycopy(other.places, 0, places, 0, PLACES);
            System.arraycopy(other.notes, 0, notes, 0, FRAMES * NOTES);
            System.arraycopy(other.counts, 0, counts, 0, CELLS);
            System.arraycopy(other.gateStates, 0, gateStates, 0, GATES);
            System.arraycopy(other.gateModules, 0, gateModules, 0, GATES);
            System.arraycopy(other.gatePatterns, 0, gatePatterns, 0, GATES);
            System.arraycopy(other.frameOrders, 0, frameOrders, 0, FRAMES);
            System.arraycopy(other.frameModules, 0, frameModules, 0, FRAMES);
            System.arraycopy(other.frameGates, 0, frameGates, 0, FRAMES);
            System.arraycopy(other.framePassed, 0, framePassed, 0, FRAMES);
            depth = other.depth;
            module = other.module;
            order = other.order;
            done = other.done;
            stop = other.stop;
        }

        long held(int place) {
            return place < 0 || place >= PLACES ? Value.ZERO : places[place];
        }

        void put(int place, long value) {
            if (place >= 0 && place < PLACES) {
                places[place] = value;
            }
        }

        /** Takes a value to another place; a shared one too, since no place more holds it then. */
        void carry(int to, int from) {
            put(to, held(from));
            put(from, Value.ZERO);
        }

        /** The document's := between two places. */
        void assign(int to, int from) {
            long value = held(from);
            if (Value.isMoved(value)) {
                carry(to, from);
                return;
            }
            put(to, value);
            if (Value.kind(value) == SHARED) {
                addToCount(Value.link(value), 1);
            }
        }

        int countOf(int cell) {
            return cell < 0 || cell >= CELLS ? 0 : counts[cell];
        }

        void addToCount(int cell, int more) {
            if (cell >= 0 && cell < CELLS) {
                counts[cell] += more;
            }
        }

        /** The lowest cell whose count is 0, or -1. */
        int freeCell() {
            for (int cell = 0; cell < CELLS; cell++) {
                if (counts[cell] == 0) {
                    return cell;
                }
            }
            return -1;
        }

        /** The lowest gate that is empty, or -1. */
        int freeGate() {
            for (int gate = 0; gate < GATES; gate++) {
                if (gateStates[gate] == GATE_EMPTY) {
                    return gate;
                }
            }
            return -1;
        }

        boolean canOpen(int gate) {
            return gate >= 0 && gate < GATES && gateStates[gate] == GATE_CLOSED && depth < FRAMES;
        }

        void fillGate(int gate, int register, int itsModule, int pattern) {
            if (gate < 0 || gate >= GATES) {
                return;
            }
            carry(GATES_AT + gate, register);
            gateStates[gate] = GATE_CLOSED;
            gateModules[gate] = itsModule;
            gatePatterns[gate] = pattern;
        }

        void openFrame(int gate, int passed, int orderBehind) {
            if (!canOpen(gate) || depth < 0) {
                return;
            }
            frameOrders[depth] = orderBehind;
            frameModules[depth] = module;
            frameGates[depth] = gate;
            framePassed[depth] = passed;
            writeNotes(gate, passed);
            for (int r = 0; r < REGISTERS; r++) {
                if (r == 0 || r > passed) {
                    carry(keptPlace(depth, r), r);
                }
            }
            carry(GATE_REGISTER, GATES_AT + gate);
            gateStates[gate] = GATE_OPEN;
            module = gateModules[gate];
            order = 0;
            depth++;
        }

        private void writeNotes(int gate, int passed) {
            int at = depth * NOTES;
            notes[at] = held(GATES_AT + gate);
            for (int r = 1; r <= LAST_PASSED; r++) {
                boolean lent = r <= passed && (gatePatterns[gate] >> (r - 1) & 1) == 1;
                // A register that is not lent may come back with any number, as a lent number may.
                notes[at + r] = lent ? held(r) : Value.ZERO;
            }
        }

        /** Whether the registers are as a return from the last frame needs them. */
        boolean canCloseFrame() {
            if (depth < 1 || depth > FRAMES) {
                return false;
            }
            int at = (depth - 1) * NOTES;
            boolean fits = Value.isNumber(held(0)) && held(GATE_REGISTER) == notes[at];
            for (int r = 1; r <= LAST_PASSED; r++) {
                long due = notes[at + r];
                fits = fits && (Value.isNumber(due) ? Value.isNumber(held(r)) : held(r) == due);
            }
            return fits;
        }

        void closeFrame() {
            int frame = depth - 1;
            if (frame < 0 || frame >= FRAMES) {
                return;
            }
            int gate = frameGates[frame];
            if (gate < 0 || gate >= GATES) {
                return;
            }
            carry(GATES_AT + gate, GATE_REGISTER);
            gateStates[gate] = GATE_CLOSED;
            for (int r = framePassed[frame] + 1; r < REGISTERS; r++) {
                carry(r, keptPlace(frame, r));
            }
            put(keptPlace(frame, 0), Value.ZERO);
            module = frameModules[frame];
            order = frameOrders[frame];
            depth = frame;
        }

        private static int keptPlace(int frame, int register) {
            return FRAMES_AT + frame * REGISTERS + register;
        }
    }

    /** The states before the last orders, in a ring whose rows are made once and used again. */
    private static final class History {
        private final State[] ring = new State[MOST_UNDONE];
        private int next = 0;
        private int size = 0;

        void clear() {
            next = 0;
            size = 0;
        }

        void keep(State state) {
            if (next < 0 || next >= MOST_UNDONE) {
                return;
            }
            State row = ring[next];
            if (row == null) {
                row = new State();
                ring[next] = row;
            }
            row.copyFrom(state);
            next = (next + 1) % MOST_UNDONE;
            size = Math.min(size + 1, MOST_UNDONE);
        }

        int takeBack(State state, int n) {
            int taken = Math.min(n, size);
            int at = Math.floorMod(next - taken, MOST_UNDONE);
            State row = ring[at];
            if (taken < 1 || row == null) {
                return 0;
            }
            state.copyFrom(row);
            next = at;
            size -= taken;
            return taken;
        }
    }

    /** Does one order: each order's method answers its fault, and changes nothing if it has one. */
    private static final class Processor {
        private static final int OPERATION_SEAL = 15;
        private static final int OPERATION_CALL = 16;
        /** How many of its a and b are registers, for each operation. */
        private static final int[] NAMED = {1, 2, 2, 2, 2, 2, 2, 1, 1, 1, 2, 2, 0, 1, 2, 1, 1, 0, 0};

        private final Code code;
        private final State state;
        private int operation = 0;
        private int a = 0;
        private int b = 0;
        private int c = 0;

        Processor(Code code, State state) {
            this.code = code;
            this.state = state;
        }

        void runOne() {
            int fault = fetch() && isWellFormed() ? perform() : FAULT_ORDER;
            if (fault != NO_FAULT) {
                state.stop = fault;
            }
            state.done++;
        }

        /** Whether there is an order at the place. */
        private boolean fetch() {
            operation = code.part(state.module, state.order, 0);
            a = code.part(state.module, state.order, 1);
            b = code.part(state.module, state.order, 2);
            c = code.part(state.module, state.order, 3);
            return code.has(state.module, state.order);
        }

        private boolean isWellFormed() {
            if (operation < 0 || operation >= NAMED.length) {
                return false;
            }
            if (NAMED[operation] >= 1 && !isRegister(a) || NAMED[operation] >= 2 && !isRegister(b)) {
                return false;
            }
            switch (operation) {
                case OPERATION_SEAL: return b >= 0 && b < MODULES && c >= 0 && c <= MOST_PATTERN;
                case OPERATION_CALL: return b >= 0 && b <= LAST_PASSED;
                default: return true;
            }
        }

        private static boolean isRegister(int r) {
            return r >= 0 && r < REGISTERS;
        }

        private int perform() {
            switch (operation) {
                case 0: return setNumber();
                case 1: return move();
                case 2: return add(1);
                case 3: return add(-1);
                case 4: return split();
                case 5: return merge();
                case 6: return restrict();
                case 7: return freeze();
                case 8: return thaw();
                case 9: return drop();
                case 10: return load();
                case 11: return store();
                case 12: return goOnAt(a);
                case 13: return jumpIfZero();
                case 14: return jumpIfLess();
                case OPERATION_SEAL: return seal();
                case OPERATION_CALL: return call();
                case 17: return comeBack();
                case 18: return halt();
                default: return FAULT_ORDER;
            }
        }

        private int goOn() {
            return goOnAt(state.order + 1);
        }

        private int goOnAt(int order) {
            state.order = order;
            return NO_FAULT;
        }

        private boolean isFull(int place) {
            return !Value.isNumber(state.held(place));
        }

        private boolean isExclusive(int register) {
            return Value.kind(state.held(register)) == EXCLUSIVE;
        }

        private boolean isShared(int register) {
            return Value.kind(state.held(register)) == SHARED;
        }

        private int setNumber() {
            if (isFull(a)) {
                return FAULT_FULL;
            }
            state.put(a, Value.number(b));
            return goOn();
        }

        private int move() {
            if (isFull(a)) {
                return FAULT_FULL;
            }
            state.assign(a, b);
            return goOn();
        }

        private int add(int sign) {
            if (isFull(a) || isFull(b)) {
                return FAULT_KIND;
            }
            state.put(a, Value.number((int) state.held(a) + sign * (int) state.held(b)));
            return goOn();
        }

        private int split() {
            if (!isExclusive(a)) {
                return FAULT_KIND;
            }
            long whole = state.held(a);
            if (c < 1 || c >= Value.length(whole)) {
                return FAULT_RANGE;
            }
            if (isFull(b)) {
                return FAULT_FULL;
            }
            int cut = Value.from(whole) + c;
            state.put(a, Value.exclusive(Value.from(whole), cut, Value.rights(whole)));
            state.put(b, Value.exclusive(cut, Value.end(whole), Value.rights(whole)));
            return goOn();
        }

        private int merge() {
            if (!isExclusive(a) || !isExclusive(b)) {
                return FAULT_KIND;
            }
            long one = state.held(a);
            long other = state.held(b);
            if (a == b || !haveJoinedRange(one, other) && !haveJoinedRights(one, other)) {
                return FAULT_MERGE;
            }
            int from = Math.min(Value.from(one), Value.from(other));
            int end = Math.max(Value.end(one), Value.end(other));
            state.put(a, Value.exclusive(from, end, Value.rights(one) | Value.rights(other)));
            state.put(b, Value.ZERO);
            return goOn();
        }

        private static boolean haveJoinedRange(long one, long other) {
            boolean touch = Value.end(one) == Value.from(other) || Value.end(other) == Value.from(one);
            return touch && Value.rights(one) == Value.rights(other);
        }

        private static boolean haveJoinedRights(long one, long other) {
            boolean same = Value.from(one) == Value.from(other) && Value.end(one) == Value.end(other);
            return same && (Value.rights(one) & Value.rights(other)) == 0;
        }

        private int restrict() {
            if (!isExclusive(a)) {
                return FAULT_KIND;
            }
            long whole = state.held(a);
            int kept = Value.rights(whole) & c;
            int others = Value.rights(whole) & ~c;
            if (kept == 0 || others == 0) {
                return FAULT_RANGE;
            }
            if (isFull(b)) {
                return FAULT_FULL;
            }
            state.put(a, Value.exclusive(Value.from(whole), Value.end(whole), kept));
            state.put(b, Value.exclusive(Value.from(whole), Value.end(whole), others));
            return goOn();
        }

        private int freeze() {
            if (!isExclusive(a)) {
                return FAULT_KIND;
            }
            long owned = state.held(a);
            if (Value.rights(owned) != READ) {
                return FAULT_RANGE;
            }
            int cell = state.freeCell();
            if (cell < 0) {
                return FAULT_NONE_LEFT;
            }
            state.put(a, Value.shared(Value.from(owned), Value.end(owned), cell));
            state.addToCount(cell, 1);
            return goOn();
        }

        private int thaw() {
            if (!isShared(a)) {
                return FAULT_KIND;
            }
            long shared = state.held(a);
            if (state.countOf(Value.link(shared)) != 1) {
                return FAULT_COUNT;
            }
            state.addToCount(Value.link(shared), -1);
            state.put(a, Value.exclusive(Value.from(shared), Value.end(shared), READ));
            return goOn();
        }

        private int drop() {
            if (!isShared(a)) {
                return FAULT_KIND;
            }
            int cell = Value.link(state.held(a));
            if (state.countOf(cell) <= 1) {
                return FAULT_COUNT;
            }
            state.addToCount(cell, -1);
            state.put(a, Value.ZERO);
            return goOn();
        }

        private int load() {
            long way = state.held(b);
            if (!Value.isCapability(way)) {
                return FAULT_KIND;
            }
            if (!isInside(way) || !Value.hasRight(way, READ)) {
                return FAULT_RANGE;
            }
            int place = WORDS_AT + Value.from(way) + c;
            if (Value.isMoved(state.held(place)) && !Value.hasRight(way, WRITE)) {
                return FAULT_RANGE;
            }
            if (isFull(a)) {
                return FAULT_FULL;
            }
            state.assign(a, place);
            return goOn();
        }

        private int store() {
            long way = state.held(b);
            if (!Value.isCapability(way)) {
                return FAULT_KIND;
            }
            // A shared capability never has the right to write, so this refuses it too.
            if (!isInside(way) || !Value.hasRight(way, WRITE)) {
                return FAULT_RANGE;
            }
            int place = WORDS_AT + Value.from(way) + c;
            if (isFull(place)) {
                return FAULT_FULL;
            }
            state.assign(place, a);
            return goOn();
        }

        private boolean isInside(long way) {
            return c >= 0 && c < Value.length(way);
        }

        private int jumpIfZero() {
            if (isFull(a)) {
                return FAULT_KIND;
            }
            return (int) state.held(a) == 0 ? goOnAt(b) : goOn();
        }

        private int jumpIfLess() {
            if (isFull(a) || isFull(b)) {
                return FAULT_KIND;
            }
            return (int) state.held(a) < (int) state.held(b) ? goOnAt(c) : goOn();
        }

        private int seal() {
            if (!isExclusive(a)) {
                return FAULT_KIND;
            }
            int gate = state.freeGate();
            if (gate < 0) {
                return FAULT_NONE_LEFT;
            }
            state.fillGate(gate, a, b, c);
            state.put(a, Value.seal(gate));
            return goOn();
        }

        private int call() {
            long seal = state.held(a);
            if (Value.kind(seal) != SEAL) {
                return FAULT_KIND;
            }
            if (isFull(0)) {
                return FAULT_FULL;
            }
            if (!state.canOpen(Value.link(seal))) {
                return FAULT_NONE_LEFT;
            }
            state.openFrame(Value.link(seal), b, state.order + 1);
            return NO_FAULT;
        }

        private int comeBack() {
            if (!state.canCloseFrame()) {
                return FAULT_RETURN;
            }
            state.closeFrame();
            return NO_FAULT;
        }

        private int halt() {
            state.stop = HALTED;
            return goOn();
        }
    }

    /** Who owns which right to which word. */
    private static final class Owners {
        private final State state;
        private final int[] tallies = new int[WORDS * RIGHTS];
        /** For each word the set of cells whose shared capabilities have it. */
        private final int[] cellsOver = new int[WORDS];
        private final int[] holders = new int[CELLS];

        Owners(State state) {
            this.state = state;
        }

        int least(int address, int right) {
            int leastCell = CELLS;
            for (int place = 0; place < PLACES; place++) {
                long value = state.held(place);
                if (!Value.covers(value, address) || !Value.hasRight(value, right)) {
                    continue;
                }
                if (Value.kind(value) == EXCLUSIVE) {
                    return ownerNumber(place);
                }
                leastCell = Math.min(leastCell, Value.link(value));
            }
            return leastCell < CELLS ? 400 + leastCell : -1;
        }

        private static int ownerNumber(int place) {
            if (place < WORDS_AT) {
                return place;
            }
            if (place < FRAMES_AT) {
                return 100 + place - WORDS_AT;
            }
            if (place < GATES_AT) {
                int kept = place - FRAMES_AT;
                return 200 + 10 * (kept / REGISTERS) + kept % REGISTERS;
            }
            return 300 + place - GATES_AT;
        }

        /** 0, or 1 + the first word, or 100 + the first cell, of which the books do not agree. */
        int firstWrong() {
            tallyAll();
            for (int address = 0; address < WORDS; address++) {
                if (!hasOneOwnerEach(address)) {
                    return 1 + address;
                }
            }
            for (int cell = 0; cell < CELLS; cell++) {
                if (state.countOf(cell) != holders[cell]) {
                    return 100 + cell;
                }
            }
            return 0;
        }

        private boolean hasOneOwnerEach(int address) {
            boolean each = true;
            for (int bit = 0; bit < RIGHTS; bit++) {
                int cells = 1 << bit == READ ? Integer.bitCount(cellsOver[address]) : 0;
                each = each && tallies[address * RIGHTS + bit] + cells == 1;
            }
            return each;
        }

        private void tallyAll() {
            Arrays.fill(tallies, 0);
            Arrays.fill(cellsOver, 0);
            Arrays.fill(holders, 0);
            for (int place = 0; place < PLACES; place++) {
                long value = state.held(place);
                if (Value.kind(value) == EXCLUSIVE) {
                    tallyExclusive(value);
                } else if (Value.kind(value) == SHARED) {
                    tallyShared(value);
                }
            }
        }

        private void tallyExclusive(long value) {
            for (int address = Value.from(value); address < Value.end(value) && address < WORDS; address++) {
                for (int bit = 0; bit < RIGHTS; bit++) {
                    tallies[address * RIGHTS + bit] += Value.rights(value) >> bit & 1;
                }
            }
        }

        private void tallyShared(long value) {
            int cell = Value.link(value);
            if (cell >= CELLS) {
                return;
            }
            holders[cell]++;
            for (int address = Value.from(value); address < Value.end(value) && address < WORDS; address++) {
                cellsOver[address] |= 1 << cell;
            }
        }
    }

    /** Which words can be reached from the registers. */
    private static final class Reach {
        private final State state;
        private final boolean[] reached = new boolean[WORDS];
        private final boolean[] readable = new boolean[WORDS];
        /** The words that can be read, in the order in which they were found. */
        private final int[] found = new int[WORDS];
        private int foundSize = 0;

        Reach(State state) {
            this.state = state;
        }

        int size() {
            follow();
            int size = 0;
            for (int address = 0; address < WORDS; address++) {
                size += reached[address] ? 1 : 0;
            }
            return size;
        }

        boolean contains(int address) {
            if (address < 0 || address >= WORDS) {
                return false;
            }
            follow();
            return reached[address];
        }

        private void follow() {
            for (int address = 0; address < WORDS; address++) {
                reached[address] = false;
                readable[address] = false;
            }
            foundSize = 0;
            for (int r = 0; r < REGISTERS; r++) {
                mark(state.held(r));
            }
            for (int i = 0; i < foundSize && i < WORDS; i++) {
                mark(state.held(WORDS_AT + found[i]));
            }
        }

        private void mark(long value) {
            if (!Value.isCapability(value)) {
                return;
            }
            for (int address = Value.from(value); address < Value.end(value) && address < WORDS; address++) {
                reached[address] = true;
                if (Value.hasRight(value, READ) && !readable[address] && foundSize < WORDS) {
                    readable[address] = true;
                    found[foundSize] = address;
                    foundSize++;
                }
            }
        }
    }
}
