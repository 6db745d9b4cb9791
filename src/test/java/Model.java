import java.util.ArrayDeque;
import java.util.ArrayList;
import java.util.List;

/** The document once more, written apart from the class and with the Java library, to compare with. */
final class Model {
    static final class Refused extends Exception {
        private static final long serialVersionUID = 1L;
        final int fault;

        Refused(int fault) {
            this.fault = fault;
        }
    }

    record Known(int device, boolean through, int root, int domain) { }

    record Leaf(int domain, int level, int above, int page, boolean reads, boolean writes) {
        boolean covers(int v) {
            return v >= above * span() && v < (above + 1) * span();
        }

        int span() {
            return level == 0 ? 1 : level == 1 ? 16 : 256;
        }
    }

    record Note(int fault, int device, boolean write, int address) { }

    record Order(int code, int a, int b) { }

    static final class Machine {
        int address = 0;
        int n = 1;
        int head = 0;
        int tail = 0;
        int state = 0;
        int done = 0;
        int copied = 0;
        int[] hand = null;
    }

    final int[] words = new int[16384];
    int place = 0;
    int lastFault = 0;
    int reads = 0;
    int hits = 0;
    boolean overflow = false;
    final ArrayList<Known> known = new ArrayList<>();
    final ArrayList<Leaf> row = new ArrayList<>();
    final ArrayList<Note> notes = new ArrayList<>();
    final ArrayDeque<Order> orders = new ArrayDeque<>();
    final List<Machine> machines = new ArrayList<>();

    Model() {
        for (int d = 0; d < 8; d++) {
            machines.add(new Machine());
        }
    }

    private static boolean within(int x, int low, int high) {
        return low <= x && x <= high;
    }

    private static boolean bit(int word, int n) {
        return (word >>> n) % 2 != 0;
    }

    private static int six(int word) {
        return (word >>> 8) % 64;
    }

    /** null: it throws. */
    Integer poke(int i, int v) {
        if (!within(i, 0, 16383)) {
            return null;
        }
        int was = words[i];
        words[i] = v;
        return was;
    }

    Integer peek(int i) {
        return within(i, 0, 16383) ? (Integer) words[i] : null;
    }

    int fill(int i, int n, int v, int step) {
        if (i < 0 || !within(n, 0, 256)) {
            return -1;
        }
        int did = 0;
        for (long k = 0; k < n; k++) {
            if (i + k <= 16383) {
                words[(int) (i + k)] = (int) (v + k * step);
                did++;
            }
        }
        return did;
    }

    boolean table(int p) {
        if (!within(p, 0, 16368) || p % 16 != 0) {
            return false;
        }
        place = p;
        return true;
    }

    boolean context(int d, boolean through, int root, int domain) {
        if (!within(d, 0, 7) || !within(root, 0, 63) || !within(domain, 0, 15)) {
            return false;
        }
        words[place + 2 * d] = 1 + (through ? 2 : 0) + 256 * root;
        words[place + 2 * d + 1] = domain;
        return true;
    }

    boolean enter(int page, int i, int rights, boolean leaf, int to) {
        if (!within(page, 0, 63) || !within(i, 0, 15) || !within(rights, 0, 3) || !within(to, 0, 63)) {
            return false;
        }
        words[page * 256 + i] = 1 + 2 * rights + (leaf ? 8 : 0) + 256 * to;
        return true;
    }

    private int led(int d, int address, boolean write) throws Refused {
        if (!within(address, 0, (1 << 20) - 1)) {
            throw new Refused(4);
        }
        Known context = knownOf(d);
        if (context.through()) {
            if (address > 16383) {
                throw new Refused(4);
            }
            return address;
        }
        int v = address / 256;
        Leaf by = null;
        for (Leaf leaf : row) {
            if (by == null && leaf.domain() == context.domain() && leaf.covers(v)) {
                by = leaf;
            }
        }
        if (by != null) {
            hits++;
        } else {
            by = walked(context, v);
            row.add(by);
            if (row.size() > 6) {
                row.remove(0);
            }
        }
        if (!(write ? by.writes() : by.reads())) {
            throw new Refused(3);
        }
        int page = (by.page() + v % by.span()) % 64;
        return page * 256 + address % 256;
    }

    private Known knownOf(int d) throws Refused {
        for (Known k : known) {
            if (k.device() == d) {
                return k;
            }
        }
        reads++;
        int first = words[place + 2 * d];
        if (!bit(first, 0)) {
            throw new Refused(1);
        }
        Known k = new Known(d, bit(first, 1), six(first), words[place + 2 * d + 1] & 15);
        known.add(k);
        if (known.size() > 3) {
            known.remove(0);
        }
        return k;
    }

    private Leaf walked(Known context, int v) throws Refused {
        int[] index = {v % 16, v / 16 % 16, v / 256};
        int[] above = {v, v / 16, v / 256};
        int page = context.root();
        for (int level = 2; ; level--) {
            int entry = words[page * 256 + index[level]];
            reads++;
            if (!bit(entry, 0)) {
                throw new Refused(2);
            }
            page = six(entry);
            if (level == 0 || bit(entry, 3)) {
                if (level != 0 && page % 16 != 0) {
                    throw new Refused(5);
                }
                return new Leaf(context.domain(), level, above[level], page, bit(entry, 1), bit(entry, 2));
            }
        }
    }

    /** The place, or the FAULT noted and -1. */
    private int access(int d, int address, boolean write) {
        try {
            int at = led(d, address, write);
            lastFault = 0;
            return at;
        } catch (Refused r) {
            lastFault = r.fault;
            if (notes.size() == 6) {
                overflow = true;
            } else {
                notes.add(new Note(r.fault, d, write, address));
            }
            return -1;
        }
    }

    Integer read(int d, int address) {
        if (!within(d, 0, 7)) {
            lastFault = 0;
            return null;
        }
        int at = access(d, address, false);
        return at < 0 ? 0 : words[at];
    }

    boolean write(int d, int address, int v) {
        if (!within(d, 0, 7)) {
            lastFault = 0;
            return false;
        }
        int at = access(d, address, true);
        if (at >= 0) {
            words[at] = v;
        }
        return at >= 0;
    }

    boolean ring(int d, int address, int n) {
        if (!within(d, 0, 7) || address % 4 != 0 || !within(address, 0, (1 << 20) - 4) || !within(n, 1, 64)) {
            return false;
        }
        Machine fresh = new Machine();
        fresh.address = address;
        fresh.n = n;
        fresh.done = machines.get(d).done;
        machines.set(d, fresh);
        return true;
    }

    int tail(int d, int t) {
        if (!within(d, 0, 7) || !within(t, 0, machines.get(d).n - 1)) {
            return -1;
        }
        Machine m = machines.get(d);
        m.tail = t;
        if (m.state == 0 && t != m.head) {
            m.state = 1;
        }
        return m.state;
    }

    int step(int d, int n) {
        if (!within(d, 0, 7) || !within(n, 0, 1000)) {
            return -1;
        }
        Machine m = machines.get(d);
        for (int done = 0; done < n; done++) {
            if (m.state != 1) {
                return done;
            }
            one(d, m);
        }
        return n;
    }

    private void one(int d, Machine m) {
        int at = m.address + 4 * m.head;
        if (m.hand == null) {
            int[] four = new int[4];
            for (int k = 0; k < 4; k++) {
                int p = access(d, at + k, false);
                if (p < 0) {
                    m.state = 2;
                    return;
                }
                four[k] = words[p];
            }
            m.hand = four;
            m.copied = 0;
        } else if (m.copied < (m.hand[2] & 255)) {
            int from = access(d, m.hand[0] + m.copied, false);
            if (from < 0) {
                m.state = 2;
                return;
            }
            int word = words[from];
            int to = access(d, m.hand[1] + m.copied, true);
            if (to < 0) {
                m.state = 2;
                return;
            }
            words[to] = word;
            m.copied++;
        } else {
            int p = access(d, at + 3, true);
            if (p < 0) {
                m.state = 2;
                return;
            }
            words[p] = m.hand[3] | 1;
            m.head = (m.head + 1) % m.n;
            m.hand = null;
            m.done++;
            m.state = m.head == m.tail ? 0 : 1;
        }
    }

    int resume(int d) {
        if (!within(d, 0, 7) || machines.get(d).state != 2) {
            return -1;
        }
        Machine m = machines.get(d);
        m.hand = null;
        m.state = m.head == m.tail ? 0 : 1;
        return m.state;
    }

    int engine(int d, int what) {
        if (!within(d, 0, 7) || !within(what, 0, 4)) {
            return -1;
        }
        Machine m = machines.get(d);
        int[] all = {m.state, m.head, m.tail, m.done, m.hand == null ? -1 : m.copied};
        return all[what];
    }

    int command(int code, int a, int b) {
        if (!within(code, 0, 5) || orders.size() == 12) {
            return -1;
        }
        orders.addLast(new Order(code, a, b));
        return orders.size();
    }

    int obey(int n) {
        if (n < 0) {
            return -1;
        }
        int did = 0;
        while (did < n && !orders.isEmpty()) {
            Order o = orders.removeFirst();
            did++;
            switch (o.code()) {
                case 0 -> row.clear();
                case 1 -> row.removeIf(leaf -> leaf.domain() == o.a());
                case 2 -> row.removeIf(leaf -> leaf.domain() == o.a() && leaf.covers(o.b()));
                case 3 -> known.removeIf(k -> k.device() == o.a());
                case 4 -> known.clear();
                default -> poke(o.a(), o.b());
            }
        }
        return did;
    }

    int count(int what) {
        int[] all = {orders.size(), notes.size(), overflow ? 1 : 0, known.size(), row.size(), reads, hits, place};
        return within(what, 0, 7) ? all[what] : -1;
    }

    int record(int i, int what) {
        if (!within(i, 0, notes.size() - 1) || !within(what, 0, 3)) {
            return -1;
        }
        Note note = notes.get(i);
        int[] all = {note.fault(), note.device(), note.write() ? 1 : 0, note.address()};
        return all[what];
    }

    int drop() {
        if (notes.isEmpty()) {
            return -1;
        }
        notes.remove(0);
        return notes.size();
    }

    int clear() {
        int had = notes.size();
        notes.clear();
        overflow = false;
        return had;
    }

    int leaf(int i, int what) {
        if (!within(i, 0, row.size() - 1) || !within(what, 0, 4)) {
            return -1;
        }
        Leaf leaf = row.get(i);
        int rights = (leaf.reads() ? 1 : 0) + (leaf.writes() ? 2 : 0);
        int[] all = {leaf.domain(), leaf.level(), leaf.above(), leaf.page(), rights};
        return all[what];
    }
}
