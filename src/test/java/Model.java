import java.util.ArrayList;
import java.util.List;

/**
 * The machine once more, written from the document in another way: places are objects, faults are
 * told one by one in the document's order, and taking back is running again from the boot.
 */
final class Model implements Seen.Looks {
    record Held(int kind, int first, int end, int rights, int link) {
        static Held number(int n) {
            return new Held(0, n, 0, 0, 0);
        }

        boolean plain() {
            return kind == 0;
        }

        int field(int f) {
            return new int[] {kind, first, end, rights, link}[f];
        }
    }

    static final class Slot {
        final int owner;
        Held held = Held.number(0);

        Slot(int owner) {
            this.owner = owner;
        }
    }

    static final class Frame {
        final List<Slot> kept = new ArrayList<>();
        int order;
        int module;
        Gate gate;
        int k;
        Held gateNote;
        Held[] lent = new Held[7];
    }

    static final class Gate {
        Slot inside;
        int module;
        int pattern;
        boolean open;
    }

    final List<List<int[]>> code = new ArrayList<>();
    boolean booted = false;
    int undoable = 0;

    List<Slot> registers;
    List<Slot> words;
    List<Frame> frames;
    List<Gate> gates;
    int[] counts;
    int module;
    int order;
    int done;
    int stop;

    Model() {
        forget();
    }

    private void forget() {
        code.clear();
        for (int m = 0; m < 3; m++) {
            code.add(new ArrayList<>());
        }
        booted = false;
        restart();
        registers.get(1).held = Held.number(0);
    }

    private void restart() {
        registers = slots(0, 8);
        words = slots(100, 48);
        frames = new ArrayList<>();
        gates = new ArrayList<>();
        counts = new int[6];
        module = 0;
        order = 0;
        done = 0;
        stop = 0;
        registers.get(1).held = new Held(1, 0, 48, 15, 0);
    }

    private static List<Slot> slots(int owner, int n) {
        List<Slot> row = new ArrayList<>();
        for (int i = 0; i < n; i++) {
            row.add(new Slot(owner + i));
        }
        return row;
    }

    int code(int m, int operation, int a, int b, int c) {
        if (booted || m < 0 || m > 2 || code.get(m).size() == 24) {
            return -1;
        }
        code.get(m).add(new int[] {operation, a, b, c});
        return code.get(m).size() - 1;
    }

    boolean boot() {
        undoable = 0;
        if (booted) {
            forget();
            return false;
        }
        booted = true;
        restart();
        return true;
    }

    int step(int n) {
        if (n < 1 || n > 30 || !booted) {
            return -2;
        }
        for (int i = 0; i < n && stop == 0; i++) {
            one();
            undoable = Math.min(40, undoable + 1);
        }
        return stop;
    }

    int undo(int n) {
        if (n < 1 || n > 40) {
            return -1;
        }
        int taken = Math.min(n, undoable);
        if (taken > 0) {
            int left = done - taken;
            restart();
            while (done < left) {
                one();
            }
            undoable -= taken;
        }
        return taken;
    }

    private void one() {
        done++;
        if (order < 0 || order >= code.get(module).size()) {
            stop = 5;
            return;
        }
        int[] o = code.get(module).get(order);
        int fault = fault(o[0], o[1], o[2], o[3]);
        if (fault != 0) {
            stop = fault;
        } else {
            act(o[0], o[1], o[2], o[3]);
        }
    }

    private Held r(int i) {
        return registers.get(i).held;
    }

    private void set(int i, Held held) {
        registers.get(i).held = held;
    }

    private static boolean in(int x, int low, int high) {
        return low <= x && x <= high;
    }

    int fault(int op, int a, int b, int c) {
        boolean hasA = in(op, 0, 11) || in(op, 13, 16);
        boolean hasB = in(op, 1, 6) || op == 10 || op == 11 || op == 14;
        if (!in(op, 0, 18) || hasA && !in(a, 0, 7) || hasB && !in(b, 0, 7)) {
            return 5;
        }
        if (op == 15 && !(in(b, 0, 2) && in(c, 0, 63)) || op == 16 && !in(b, 0, 6)) {
            return 5;
        }
        if (kindFault(op, a, b)) {
            return 1;
        }
        if (rangeFault(op, a, b, c)) {
            return 2;
        }
        if (fullFault(op, a, b, c)) {
            return 3;
        }
        if (op == 5 && !fits(a, b)) {
            return 4;
        }
        if (op == 8 && counts[r(a).link] != 1 || op == 9 && counts[r(a).link] < 2) {
            return 6;
        }
        if (op == 7 && lowestCell() == 6 || op == 15 && gates.size() == 6) {
            return 7;
        }
        if (op == 16 && (gates.get(r(a).link).open || frames.size() == 5)) {
            return 7;
        }
        return op == 17 && !returns() ? 8 : 0;
    }

    private boolean kindFault(int op, int a, int b) {
        switch (op) {
            case 2: case 3: case 14: return !r(a).plain() || !r(b).plain();
            case 13: return !r(a).plain();
            case 4: case 6: case 7: case 15: return r(a).kind != 1;
            case 5: return r(a).kind != 1 || r(b).kind != 1;
            case 8: case 9: return r(a).kind != 2;
            case 10: case 11: return r(b).kind != 1 && r(b).kind != 2;
            case 16: return r(a).kind != 3;
            default: return false;
        }
    }

    private boolean rangeFault(int op, int a, int b, int c) {
        Held x = op == 10 || op == 11 ? r(b) : op == 17 || op == 12 || op == 18 ? null : r(a);
        long at = x == null ? 0 : (long) x.first + c;
        switch (op) {
            case 4: return !(at > x.first && at < x.end);
            case 6: return (x.rights & c) == 0 || (x.rights & c) == x.rights;
            case 7: return x.rights != 1;
            case 10:
                if (at < x.first || at >= x.end || (x.rights & 1) == 0) {
                    return true;
                }
                Held there = words.get((int) at).held;
                return (there.kind == 1 || there.kind == 3) && (x.rights & 2) == 0;
            case 11: return x.kind == 2 || at < x.first || at >= x.end || (x.rights & 2) == 0;
            default: return false;
        }
    }

    private boolean fullFault(int op, int a, int b, int c) {
        switch (op) {
            case 0: case 1: case 10: return !r(a).plain();
            case 4: case 6: return !r(b).plain();
            case 11: return !words.get(r(b).first + c).held.plain();
            case 16: return !r(0).plain();
            default: return false;
        }
    }

    private boolean fits(int a, int b) {
        Held x = r(a);
        Held y = r(b);
        if (a == b) {
            return false;
        }
        if (x.rights == y.rights) {
            return x.end == y.first || y.end == x.first;
        }
        return x.first == y.first && x.end == y.end && (x.rights & y.rights) == 0;
    }

    private int lowestCell() {
        int cell = 0;
        while (cell < 6 && counts[cell] != 0) {
            cell++;
        }
        return cell;
    }

    private boolean returns() {
        if (frames.isEmpty() || !r(0).plain()) {
            return false;
        }
        Frame f = frames.get(frames.size() - 1);
        for (int i = 1; i <= 6; i++) {
            boolean lent = i <= f.k && (f.gate.pattern & 1 << i - 1) != 0;
            if (lent && !f.lent[i].plain()) {
                if (!r(i).equals(f.lent[i])) {
                    return false;
                }
            } else if (!r(i).plain()) {
                return false;
            }
        }
        return r(7).equals(f.gateNote);
    }

    private void assign(Slot to, Slot from) {
        Held held = from.held;
        to.held = held;
        if (held.kind == 1 || held.kind == 3) {
            from.held = Held.number(0);
        } else if (held.kind == 2) {
            counts[held.link]++;
        }
    }

    private void act(int op, int a, int b, int c) {
        int next = order + 1;
        switch (op) {
            case 0: set(a, Held.number(b)); break;
            case 1: assign(registers.get(a), registers.get(b)); break;
            case 2: set(a, Held.number(r(a).first + r(b).first)); break;
            case 3: set(a, Held.number(r(a).first - r(b).first)); break;
            case 4:
                set(b, new Held(1, r(a).first + c, r(a).end, r(a).rights, 0));
                set(a, new Held(1, r(a).first, r(a).first + c, r(a).rights, 0));
                break;
            case 5:
                int low = Math.min(r(a).first, r(b).first);
                set(a, new Held(1, low, Math.max(r(a).end, r(b).end), r(a).rights | r(b).rights, 0));
                set(b, Held.number(0));
                break;
            case 6:
                set(b, new Held(1, r(a).first, r(a).end, r(a).rights & ~c, 0));
                set(a, new Held(1, r(a).first, r(a).end, r(a).rights & c, 0));
                break;
            case 7:
                set(a, new Held(2, r(a).first, r(a).end, 1, lowestCell()));
                counts[r(a).link] = 1;
                break;
            case 8:
                counts[r(a).link] = 0;
                set(a, new Held(1, r(a).first, r(a).end, 1, 0));
                break;
            case 9:
                counts[r(a).link]--;
                set(a, Held.number(0));
                break;
            case 10: assign(registers.get(a), words.get(r(b).first + c)); break;
            case 11: assign(words.get(r(b).first + c), registers.get(a)); break;
            case 12: next = a; break;
            case 13: next = r(a).first == 0 ? b : next; break;
            case 14: next = r(a).first < r(b).first ? c : next; break;
            case 15: seal(a, b, c); break;
            case 16: call(gates.get(r(a).link), b); next = 0; break;
            case 17: next = comeBack(); break;
            default: stop = -1; break;
        }
        order = next;
    }

    private void seal(int a, int m, int p) {
        Gate gate = new Gate();
        gate.inside = new Slot(300 + gates.size());
        gate.inside.held = r(a);
        gate.module = m;
        gate.pattern = p;
        set(a, new Held(3, 0, 0, 0, gates.size()));
        gates.add(gate);
    }

    private void call(Gate gate, int k) {
        Frame f = new Frame();
        f.order = order + 1;
        f.module = module;
        f.gate = gate;
        f.k = k;
        f.gateNote = gate.inside.held;
        List<Slot> fresh = slots(0, 8);
        for (int i = 0; i < 8; i++) {
            Slot kept = new Slot(200 + 10 * frames.size() + i);
            f.kept.add(kept);
            if (in(i, 1, k)) {
                fresh.get(i).held = r(i);
                f.lent[i] = r(i);
            } else {
                kept.held = r(i);
            }
        }
        fresh.get(7).held = gate.inside.held;
        gate.inside.held = Held.number(0);
        gate.open = true;
        registers = fresh;
        frames.add(f);
        module = gate.module;
    }

    private int comeBack() {
        Frame f = frames.remove(frames.size() - 1);
        f.gate.inside.held = r(7);
        f.gate.open = false;
        for (int i = f.k + 1; i < 8; i++) {
            set(i, f.kept.get(i).held);
        }
        module = f.module;
        return f.order;
    }

    @Override
    public int register(int i, int field) {
        return in(i, 0, 7) && in(field, 0, 4) ? r(i).field(field) : -1;
    }

    @Override
    public int word(int i, int field) {
        return in(i, 0, 47) && in(field, 0, 4) ? words.get(i).held.field(field) : -1;
    }

    @Override
    public int look(int what) {
        switch (what) {
            case 0: return frames.size();
            case 1: return module;
            case 2: return order;
            case 3: return done;
            case 4: return stop;
            case 5: case 6: case 7: return code.get(what - 5).size();
            default: return -1;
        }
    }

    private List<Slot> places() {
        List<Slot> all = new ArrayList<>(registers);
        all.addAll(words);
        for (Frame f : frames) {
            all.addAll(f.kept);
        }
        for (Gate g : gates) {
            all.add(g.inside);
        }
        return all;
    }

    private List<Integer> owners(List<Slot> places, int address, int right) {
        List<Integer> found = new ArrayList<>();
        for (Slot s : places) {
            Held h = s.held;
            boolean has = in(h.kind, 1, 2) && in(address, h.first, h.end - 1) && (h.rights & right) != 0;
            int owner = h.kind == 1 ? s.owner : 400 + h.link;
            if (has && !(h.kind == 2 && found.contains(owner))) {
                found.add(owner);
            }
        }
        found.sort(null);
        return found;
    }

    @Override
    public int owner(int address, int right) {
        if (!in(address, 0, 47) || right != 1 && right != 2 && right != 4 && right != 8) {
            return -1;
        }
        List<Integer> found = owners(places(), address, right);
        return found.isEmpty() ? -1 : found.get(0);
    }

    @Override
    public int count(int cell) {
        return in(cell, 0, 5) ? counts[cell] : -1;
    }

    @Override
    public int gate(int g, int field) {
        if (!in(g, 0, 5) || !in(field, 0, 2)) {
            return -1;
        }
        if (g >= gates.size()) {
            return 0;
        }
        Gate gate = gates.get(g);
        return field == 0 ? (gate.open ? 2 : 1) : field == 1 ? gate.module : gate.pattern;
    }

    @Override
    public int reach() {
        int n = 0;
        for (int w = 0; w < 48; w++) {
            n += reaches(w) ? 1 : 0;
        }
        return n;
    }

    @Override
    public boolean reaches(int address) {
        List<Held> met = new ArrayList<>();
        for (Slot s : registers) {
            met.add(s.held);
        }
        boolean[] read = new boolean[48];
        for (int i = 0; i < met.size(); i++) {
            Held h = met.get(i);
            if (!in(h.kind, 1, 2)) {
                continue;
            }
            if (in(address, h.first, h.end - 1)) {
                return true;
            }
            for (int w = h.first; w < h.end && (h.rights & 1) != 0; w++) {
                if (!read[w]) {
                    read[w] = true;
                    met.add(words.get(w).held);
                }
            }
        }
        return false;
    }

    @Override
    public int conserve() {
        if (!booted) {
            return 0;
        }
        List<Slot> places = places();
        for (int w = 0; w < 48; w++) {
            for (int right = 1; right <= 8; right *= 2) {
                if (owners(places, w, right).size() != 1) {
                    return 1 + w;
                }
            }
        }
        for (int cell = 0; cell < 6; cell++) {
            int n = 0;
            for (Slot s : places) {
                n += s.held.kind == 2 && s.held.link == cell ? 1 : 0;
            }
            if (n != counts[cell]) {
                return 100 + cell;
            }
        }
        return 0;
    }
}
