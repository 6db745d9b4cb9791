import java.util.NoSuchElementException;

/** A gate between devices and memory, as ../shared/DOC.md promises it. */
public final class DmaGate {
    public static final int NONE = -1;

    private static final int PAGES = 64;
    private static final int MEMORY_WORDS = 16384;
    private static final int ADDRESS_LIMIT = 1 << 20;
    private static final int DEVICES = 8;
    private static final int DOMAINS = 16;
    private static final int TABLE_ENTRIES = 16;
    private static final int LAST_TABLE_PLACE = 16368;
    private static final int FILL_LIMIT = 256;
    private static final int RING_LIMIT = 64;
    private static final int STEP_LIMIT = 1000;

    // Bits of a CONTEXT's first word and of an ENTRY.
    private static final int VALID = 1;
    private static final int THROUGH = 2;
    private static final int LEAF = 8;

    // Rights as the face tells them; an ENTRY has them one bit higher.
    private static final int READ = 1;
    private static final int WRITE = 2;
    private static final int ALL_RIGHTS = 3;

    private static final int FAULT_CONTEXT = 1;
    private static final int FAULT_ENTRY = 2;
    private static final int FAULT_RIGHT = 3;
    private static final int FAULT_ADDRESS = 4;
    private static final int FAULT_LEAF = 5;

    // Columns of the remembered CONTEXTS.
    private static final int CONTEXT_DEVICE = 0;
    private static final int CONTEXT_WORD = 1;
    private static final int CONTEXT_DOMAIN = 2;

    // Columns of the remembered LEAVES, in the order of leaf()'s what.
    private static final int LEAF_DOMAIN = 0;
    private static final int LEAF_LEVEL = 1;
    private static final int LEAF_ABOVE = 2;
    private static final int LEAF_PAGE = 3;
    private static final int LEAF_RIGHTS = 4;

    // Columns of THE LOG, in the order of record()'s what.
    private static final int RECORD_FAULT = 0;
    private static final int RECORD_DEVICE = 1;
    private static final int RECORD_WRITE = 2;
    private static final int RECORD_ADDRESS = 3;

    // Columns of the COMMANDS that wait.
    private static final int COMMAND_CODE = 0;
    private static final int COMMAND_A = 1;
    private static final int COMMAND_B = 2;
    private static final int LAST_COMMAND = 5;

    private static final int IDLE = 0;
    private static final int AT_WORK = 1;
    private static final int STOPPED = 2;

    private final int[] memory = new int[MEMORY_WORDS];
    private final Rows contexts = new Rows(3, 3);
    private final Rows leaves = new Rows(6, 5);
    private final Rows log = new Rows(6, 4);
    private final Rows commands = new Rows(12, 3);
    private final Engine[] engines = new Engine[DEVICES];
    private int tablePlace = 0;
    private int latestFault = 0;
    private int tableReads = 0;
    private int leafHits = 0;
    private boolean overflows = false;

    public DmaGate() {
        for (int d = 0; d < DEVICES; d++) {
            engines[d] = new Engine();
        }
    }

    // ---- memory and tables, by the host

    public int poke(int i, int v) throws NoSuchElementException {
        if (!isBelow(i, MEMORY_WORDS)) {
            throw new NoSuchElementException();
        }
        int before = memory[i];
        memory[i] = v;
        return before;
    }

    public int peek(int i) throws NoSuchElementException {
        if (!isBelow(i, MEMORY_WORDS)) {
            throw new NoSuchElementException();
        }
        return memory[i];
    }

    public int fill(int i, int n, int v, int step) {
        if (i < 0 || n < 0 || n > FILL_LIMIT) {
            return NONE;
        }
        int there = i < MEMORY_WORDS ? MEMORY_WORDS - i : 0;
        int filled = n < there ? n : there;
        int value = v;
        for (int k = 0; k < filled; k++) {
            setWord(i + k, value);
            value += step;
        }
        return filled;
    }

    public boolean table(int place) {
        if (place < 0 || place > LAST_TABLE_PLACE || (place & 15) != 0) {
            return false;
        }
        tablePlace = place;
        return true;
    }

    public boolean context(int d, boolean through, int root, int domain) {
        if (!isBelow(d, DEVICES) || !isBelow(root, PAGES) || !isBelow(domain, DOMAINS)) {
            return false;
        }
        int place = contextPlace(d);
        setWord(place, VALID | (through ? THROUGH : 0) | root << 8);
        setWord(place + 1, domain);
        return true;
    }

    public boolean enter(int page, int i, int rights, boolean leaf, int to) {
        if (!isBelow(page, PAGES) || !isBelow(i, TABLE_ENTRIES)
                || !isBelow(rights, ALL_RIGHTS + 1) || !isBelow(to, PAGES)) {
            return false;
        }
        setWord(placeIn(page, i), VALID | rights << 1 | (leaf ? LEAF : 0) | to << 8);
        return true;
    }

    // ---- accesses of a device

    public int read(int d, int address) throws NoSuchElementException {
        if (!isBelow(d, DEVICES)) {
            // fault() tells of the latest read(), and this one has no FAULT.
            latestFault = 0;
            throw new NoSuchElementException();
        }
        int place = access(d, address, false);
        return place < 0 ? 0 : wordAt(place);
    }

    public boolean write(int d, int address, int v) {
        if (!isBelow(d, DEVICES)) {
            latestFault = 0;
            return false;
        }
        int place = access(d, address, true);
        return place >= 0 && setWord(place, v);
    }

    public int fault() {
        return latestFault;
    }

    // ---- engines

    public boolean ring(int d, int address, int n) {
        if (!isBelow(d, DEVICES) || !isBelow(address, ADDRESS_LIMIT) || (address & 3) != 0
                || n < 1 || n > RING_LIMIT) {
            return false;
        }
        engines[d].begin(address, n);
        return true;
    }

    public int tail(int d, int t) {
        if (!isBelow(d, DEVICES) || !isBelow(t, engines[d].slots)) {
            return NONE;
        }
        Engine e = engines[d];
        e.tail = t;
        if (e.state == IDLE && e.tail != e.head) {
            e.state = AT_WORK;
        }
        return e.state;
    }

    public int step(int d, int n) {
        if (!isBelow(d, DEVICES) || n < 0 || n > STEP_LIMIT) {
            return NONE;
        }
        Engine e = engines[d];
        int done = 0;
        while (done < n && e.state == AT_WORK) {
            boolean went = !e.atHand ? takeDescriptor(d, e)
                    : e.copied < e.length ? copyWord(d, e) : finishDescriptor(d, e);
            if (!went) {
                e.state = STOPPED;
            }
            done++;
        }
        return done;
    }

    public int resume(int d) {
        if (!isBelow(d, DEVICES) || engines[d].state != STOPPED) {
            return NONE;
        }
        Engine e = engines[d];
        e.atHand = false;
        // TAIL may have been set to HEAD while it was stopped.
        e.state = e.head == e.tail ? IDLE : AT_WORK;
        return e.state;
    }

    public int engine(int d, int what) {
        if (!isBelow(d, DEVICES)) {
            return NONE;
        }
        Engine e = engines[d];
        switch (what) {
            case 0:
                return e.state;
            case 1:
                return e.head;
            case 2:
                return e.tail;
            case 3:
                return e.done;
            case 4:
                return e.atHand ? e.copied : NONE;
            default:
                return NONE;
        }
    }

    // ---- commands, the log

    public int command(int code, int a, int b) {
        if (code < 0 || code > LAST_COMMAND || commands.isFull()) {
            return NONE;
        }
        int row = commands.open();
        commands.put(row, COMMAND_CODE, code);
        commands.put(row, COMMAND_A, a);
        commands.put(row, COMMAND_B, b);
        return commands.size;
    }

    public int obey(int n) {
        if (n < 0) {
            return NONE;
        }
        int due = n < commands.size ? n : commands.size;
        for (int k = 0; k < due; k++) {
            carryOut(commands.cell(0, COMMAND_CODE), commands.cell(0, COMMAND_A),
                    commands.cell(0, COMMAND_B));
            commands.remove(0);
        }
        return due;
    }

    public int count(int what) {
        switch (what) {
            case 0:
                return commands.size;
            case 1:
                return log.size;
            case 2:
                return overflows ? 1 : 0;
            case 3:
                return contexts.size;
            case 4:
                return leaves.size;
            case 5:
                return tableReads;
            case 6:
                return leafHits;
            case 7:
                return tablePlace;
            default:
                return NONE;
        }
    }

    public int record(int i, int what) {
        return log.cell(i, what);
    }

    public int drop() {
        if (log.size == 0) {
            return NONE;
        }
        log.remove(0);
        return log.size;
    }

    public int clear() {
        int had = log.size;
        log.removeAll();
        overflows = false;
        return had;
    }

    public int leaf(int i, int what) {
        return leaves.cell(i, what);
    }

    // ---- places

    private static boolean isBelow(int i, int limit) {
        return i >= 0 && i < limit;
    }

    private static int placeIn(int page, int word) {
        return page << 8 | word;
    }

    private static int pageOf(int word) {
        return word >> 8 & PAGES - 1;
    }

    private int contextPlace(int d) {
        return tablePlace + 2 * d;
    }

    private int wordAt(int place) {
        return isBelow(place, MEMORY_WORDS) ? memory[place] : 0;
    }

    private boolean setWord(int place, int v) {
        if (!isBelow(place, MEMORY_WORDS)) {
            return false;
        }
        memory[place] = v;
        return true;
    }

    // ---- how an ADDRESS is led to a place

    /** The place of an ADDRESS; where the access is refused, the FAULT is logged and told below 0. */
    private int access(int d, int address, boolean write) {
        int place = lead(d, address, write ? WRITE : READ);
        latestFault = place < 0 ? -place : 0;
        if (place < 0) {
            logFault(d, address, write);
        }
        return place;
    }

    private void logFault(int d, int address, boolean write) {
        if (log.isFull()) {
            overflows = true;
            return;
        }
        int row = log.open();
        log.put(row, RECORD_FAULT, latestFault);
        log.put(row, RECORD_DEVICE, d);
        log.put(row, RECORD_WRITE, write ? 1 : 0);
        log.put(row, RECORD_ADDRESS, address);
    }

    /** A place, or a FAULT with its sign turned. */
    private int lead(int d, int address, int right) {
        if (!isBelow(address, ADDRESS_LIMIT)) {
            return -FAULT_ADDRESS;
        }
        int context = contextOf(d);
        if (context == NONE) {
            return -FAULT_CONTEXT;
        }
        int word = contexts.cell(context, CONTEXT_WORD);
        if ((word & THROUGH) != 0) {
            return address < MEMORY_WORDS ? address : -FAULT_ADDRESS;
        }
        int leaf = leafFor(contexts.cell(context, CONTEXT_DOMAIN), pageOf(word), address >> 8);
        if (leaf < 0) {
            return leaf;
        }
        if ((leaves.cell(leaf, LEAF_RIGHTS) & right) == 0) {
            return -FAULT_RIGHT;
        }
        return placeBy(leaf, address);
    }

    private int placeBy(int leaf, int address) {
        int below = (1 << 4 * leaves.cell(leaf, LEAF_LEVEL)) - 1;
        int page = leaves.cell(leaf, LEAF_PAGE) + (address >> 8 & below);
        return placeIn(page & PAGES - 1, address & 255);
    }

    /** The row of a device's remembered CONTEXT, read before if need be; NONE: it is not VALID. */
    private int contextOf(int d) {
        for (int row = 0; row < contexts.size; row++) {
            if (contexts.cell(row, CONTEXT_DEVICE) == d) {
                return row;
            }
        }
        int place = contextPlace(d);
        int word = wordAt(place);
        tableReads++;
        if ((word & VALID) == 0) {
            return NONE;
        }
        int row = contexts.open();
        contexts.put(row, CONTEXT_DEVICE, d);
        contexts.put(row, CONTEXT_WORD, word);
        contexts.put(row, CONTEXT_DOMAIN, wordAt(place + 1) & DOMAINS - 1);
        return row;
    }

    /** The row of the LEAF that leads v, remembered before or now; or a FAULT with its sign turned. */
    private int leafFor(int domain, int root, int v) {
        for (int row = 0; row < leaves.size; row++) {
            if (leaves.cell(row, LEAF_DOMAIN) == domain && isForPage(row, v)) {
                leafHits++;
                return row;
            }
        }
        int level = 2;
        int entry = entryFor(root, level, v);
        while (level > 0 && (entry & (VALID | LEAF)) == VALID) {
            level--;
            entry = entryFor(pageOf(entry), level, v);
        }
        if ((entry & VALID) == 0) {
            return -FAULT_ENTRY;
        }
        if (level > 0 && (pageOf(entry) & 15) != 0) {
            return -FAULT_LEAF;
        }
        return rememberLeaf(domain, level, v, entry);
    }

    private int entryFor(int page, int level, int v) {
        tableReads++;
        return wordAt(placeIn(page, v >> 4 * level & 15));
    }

    private boolean isForPage(int leaf, int v) {
        return leaves.cell(leaf, LEAF_ABOVE) == v >> 4 * leaves.cell(leaf, LEAF_LEVEL);
    }

    private int rememberLeaf(int domain, int level, int v, int entry) {
        int row = leaves.open();
        leaves.put(row, LEAF_DOMAIN, domain);
        leaves.put(row, LEAF_LEVEL, level);
        leaves.put(row, LEAF_ABOVE, v >> 4 * level);
        leaves.put(row, LEAF_PAGE, pageOf(entry));
        leaves.put(row, LEAF_RIGHTS, entry >> 1 & ALL_RIGHTS);
        return row;
    }

    // ---- the three kinds of a STEP; each answers false where a FAULT stops it

    private boolean takeDescriptor(int d, Engine e) {
        for (int k = 0; k < 4; k++) {
            int place = access(d, e.descriptorAddress() + k, false);
            if (place < 0) {
                return false;
            }
            e.take(k, wordAt(place));
        }
        e.copied = 0;
        e.atHand = true;
        return true;
    }

    private boolean copyWord(int d, Engine e) {
        int from = access(d, e.source + e.copied, false);
        if (from < 0) {
            return false;
        }
        int word = wordAt(from);
        int to = access(d, e.target + e.copied, true);
        if (to < 0) {
            return false;
        }
        setWord(to, word);
        e.copied++;
        return true;
    }

    private boolean finishDescriptor(int d, Engine e) {
        int place = access(d, e.descriptorAddress() + 3, true);
        if (place < 0) {
            return false;
        }
        setWord(place, e.mark | 1);
        e.goOn();
        return true;
    }

    // ---- COMMANDS

    private void carryOut(int code, int a, int b) {
        switch (code) {
            case 0:
                leaves.removeAll();
                break;
            case 1:
                forgetDomain(a);
                break;
            case 2:
                forgetPage(a, b);
                break;
            case 3:
                forgetContext(a);
                break;
            case 4:
                contexts.removeAll();
                break;
            default:
                setWord(a, b);
                break;
        }
    }

    // Backwards, so that a removed row does not move those still to be looked at.

    private void forgetDomain(int domain) {
        for (int row = leaves.size - 1; row >= 0; row--) {
            if (leaves.cell(row, LEAF_DOMAIN) == domain) {
                leaves.remove(row);
            }
        }
    }

    private void forgetPage(int domain, int v) {
        for (int row = leaves.size - 1; row >= 0; row--) {
            if (leaves.cell(row, LEAF_DOMAIN) == domain && isForPage(row, v)) {
                leaves.remove(row);
            }
        }
    }

    private void forgetContext(int d) {
        for (int row = contexts.size - 1; row >= 0; row--) {
            if (contexts.cell(row, CONTEXT_DEVICE) == d) {
                contexts.remove(row);
            }
        }
    }

    /** Rows of ints in the order in which they came, made once for as many as may be kept. */
    private static final class Rows {
        private final int limit;
        private final int width;
        private final int[] cells;
        private int size = 0;

        Rows(int limit, int width) {
            this.limit = limit;
            this.width = width;
            this.cells = new int[limit * width];
        }

        boolean isFull() {
            return size >= limit;
        }

        /** A new last row, to be put cell by cell; where it is full, the first row goes. */
        int open() {
            if (isFull()) {
                remove(0);
            }
            size++;
            return size - 1;
        }

        void put(int row, int column, int value) {
            if (has(row, column)) {
                cells[row * width + column] = value;
            }
        }

        int cell(int row, int column) {
            return has(row, column) ? cells[row * width + column] : NONE;
        }

        void remove(int row) {
            if (row < 0 || row >= size) {
                return;
            }
            int end = (size - 1) * width;
            for (int k = row * width; k < end; k++) {
                cells[k] = cells[k + width];
            }
            size--;
        }

        void removeAll() {
            size = 0;
        }

        private boolean has(int row, int column) {
            return row >= 0 && row < size && column >= 0 && column < width;
        }
    }

    /** A device's engine: its RING, where it stands there, the descriptor at hand. */
    private static final class Engine {
        private int ringAddress = 0;
        private int slots = 1;
        private int head = 0;
        private int tail = 0;
        private int state = IDLE;
        private int done = 0;
        private boolean atHand = false;
        private int source = 0;
        private int target = 0;
        private int length = 0;
        private int mark = 0;
        private int copied = 0;

        void begin(int address, int n) {
            ringAddress = address;
            slots = n;
            head = 0;
            tail = 0;
            state = IDLE;
            atHand = false;
        }

        int descriptorAddress() {
            return ringAddress + 4 * head;
        }

        void take(int k, int word) {
            switch (k) {
                case 0:
                    source = word;
                    break;
                case 1:
                    target = word;
                    break;
                case 2:
                    length = word & 255;
                    break;
                default:
                    mark = word;
                    break;
            }
        }

        void goOn() {
            head = head + 1 < slots ? head + 1 : 0;
            atHand = false;
            done++;
            if (head == tail) {
                state = IDLE;
            }
        }
    }
}
