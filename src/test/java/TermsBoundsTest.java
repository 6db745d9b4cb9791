/** Each sentence of Terms 1 (MEMORY, ADDRESSES, tables, FAULTS) that names a boundary case. */
public final class TermsBoundsTest {
    private static final Check c = new Check();

    public static void main(String[] args) {
        atMost512Calls();
        memory();
        address();
        contextTable();
        wordsOfADevice();
        through();
        contextBits();
        tableIsSixteenWords();
        entryBits();
        eachBitOfTheNumberLeads();
        levelZeroIsALeaf();
        leafIsForAllOfItsNumbers();
        lowestSixBitsOfTheSum();
        rightsAreTheLeafs();
        faultOne();
        faultTwo();
        faultThree();
        faultFourOfTwentyBits();
        faultFourOfThrough();
        faultFive();
        order();
        c.end("TermsBoundsTest");
    }

    private static void atMost512Calls() {
        c.sentence("An object is used for at most 512 calls after it has been made");
        DmaGate g = new DmaGate();
        g.context(5, true, 0, 0);
        g.ring(5, 1000, 64);
        int head = 0;
        for (int calls = 2; calls < 510; calls += 2) {
            head = (head + 63) % 64;
            g.tail(5, head);
            g.step(5, 1000);
        }
        c.due("the 511th call: engine(5, 1)", g.engine(5, 1), head);
        c.due("the 512th call: engine(5, 3)", g.engine(5, 3), 254 * 63);
        DmaGate h = new DmaGate();
        for (int calls = 0; calls < 511; calls++) {
            h.read(0, 0);
        }
        c.due("the 512th call: count(5)", h.count(5), 511);
    }

    private static void memory() {
        c.sentence("MEMORY has 64 PAGES of 256 WORDS (ints), all 0 at first; place 0 .. 16383.");
        DmaGate g = new DmaGate();
        for (int i = 0; i < 16384; i++) {
            c.due("new: peek(" + i + ")", g.peek(i), 0);
        }
        int[] places = {0, 255, 256, 16127, 16128, 16383};
        int[] words = {Integer.MIN_VALUE, Integer.MAX_VALUE, -1, 1 << 16, 1 << 31 | 1, 0x80008000};
        for (int k = 0; k < places.length; k++) {
            g.poke(places[k], words[k]);
        }
        int others = 0;
        for (int i = 0; i < 16384; i++) {
            others += g.peek(i) != 0 ? 1 : 0;
        }
        c.due("words that are not 0", others, places.length);
        for (int k = 0; k < places.length; k++) {
            c.due("peek(" + places[k] + ")", g.peek(places[k]), words[k]);
        }
        c.peekThrows(g, -1);
        c.peekThrows(g, 16384);
        g.context(0, false, 1, 0);
        g.enter(1, 0, 3, true, 48);
        c.dueRead(g, 0, 15 << 8 | 255, 0x80008000, 0);
    }

    /** Device 0: PAGE NUMBER 0 is PAGE 40, the last one, 0xfff, is PAGE 50. */
    private static DmaGate firstAndLast() {
        DmaGate g = new DmaGate();
        g.context(0, false, 1, 0);
        g.enter(1, 0, 0, false, 2);
        g.enter(2, 0, 0, false, 3);
        g.enter(3, 0, 3, false, 40);
        g.enter(1, 15, 0, false, 4);
        g.enter(4, 15, 0, false, 5);
        g.enter(5, 15, 3, false, 50);
        return g;
    }

    private static void address() {
        c.sentence("A device ADDRESS has 20 bits: PAGE NUMBER v (12 bits), and a word in the PAGE (8 bits).");
        DmaGate g = firstAndLast();
        int[] addresses = {0, 255, 0xfff00, 0xfffff};
        int[] places = {40 * 256, 40 * 256 + 255, 50 * 256, 50 * 256 + 255};
        for (int k = 0; k < 4; k++) {
            g.poke(places[k], 70 + k);
            c.dueRead(g, 0, addresses[k], 70 + k, 0);
            c.dueWrite(g, 0, addresses[k], 80 + k, 0);
            c.due("peek(" + places[k] + ")", g.peek(places[k]), 80 + k);
        }
        c.dueLeaf(g, 0, 0, 0, 0, 40, 3);
        c.dueLeaf(g, 1, 0, 0, 0xfff, 50, 3);
        c.dueRead(g, 0, 256, 0, 2);
        c.dueRead(g, 0, 0xffeff, 0, 2);
        c.dueRead(g, 0, 0x100000, 0, 4);
    }

    private static void contextTable() {
        c.sentence("THE CONTEXT TABLE is at a place told by the host (a multiple of 16, 0 at first)");
        DmaGate g = new DmaGate();
        c.due("new: count(7)", g.count(7), 0);
        g.poke(0, 3);
        g.poke(100, 5);
        c.dueRead(g, 0, 100, 5, 0);
        DmaGate h = new DmaGate();
        c.due("table(16368)", h.table(16368), true);
        h.poke(16368, 3);
        h.poke(100, 6);
        c.dueRead(h, 0, 100, 6, 0);
        c.dueRead(h, 1, 100, 0, 1);
    }

    private static void wordsOfADevice() {
        c.sentence("device d (0 .. 7) has its words 2 * d, 2 * d + 1 there");
        int[] tables = {0, 16, 16368};
        for (int table : tables) {
            for (int d = 0; d < 8; d++) {
                DmaGate g = new DmaGate();
                g.table(table);
                g.enter(20, 0, 3, true, 16);
                g.poke(table + 2 * d, 20 << 8 | 1);
                g.poke(table + 2 * d + 1, d + 5);
                for (int other = 0; other < 8; other++) {
                    c.dueRead(g, other, 9, 0, other == d ? 0 : 1);
                }
                c.due("DOMAIN of device " + d, g.leaf(0, 0), d + 5);
            }
        }
    }

    private static void through() {
        c.sentence("THROUGH (ADDRESSES are places, with all rights; bits 14 .. 19 must be 0)");
        DmaGate g = new DmaGate();
        g.table(1024);
        g.context(6, true, 63, 15);
        int[] places = {0, 255, 256, 8192, 16383};
        for (int i : places) {
            g.poke(i, i + 3);
            c.dueRead(g, 6, i, i + 3, 0);
            c.dueWrite(g, 6, i, -i, 0);
            c.due("peek(" + i + ")", g.peek(i), -i);
        }
        g.clear();
        for (int bit = 14; bit < 20; bit++) {
            c.dueRead(g, 6, 1 << bit, 0, 4);
            c.dueRecord(g, 0, 4, 6, 0, 1 << bit);
            c.dueWrite(g, 6, 1 << bit | 255, 8, 4);
            c.dueRecord(g, 1, 4, 6, 1, 1 << bit | 255);
            g.clear();
        }
        c.due("peek(255)", g.peek(255), -255);
    }

    private static void contextBits() {
        c.sentence("bits 8 .. 13: the PAGE of its ROOT; of the second one bits 0 .. 3: its DOMAIN");
        int[] roots = {0, 1, 32, 63};
        int[] domains = {0, 1, 8, 15};
        int[] others = {0, 0xffffc0fc};
        for (int k = 0; k < 4; k++) {
            for (int other : others) {
                DmaGate g = new DmaGate();
                g.table(1024);
                g.enter(roots[k], 15, 1, true, 16);
                g.poke(1024, other | roots[k] << 8 | 1);
                g.poke(1025, (other == 0 ? 0 : 0xfffffff0) | domains[k]);
                c.dueRead(g, 0, 0xf0000, 0, 0);
                c.dueLeaf(g, 0, domains[k], 2, 15, 16, 1);
            }
        }
    }

    private static void tableIsSixteenWords() {
        c.sentence("A TABLE is the first 16 words of a PAGE.");
        DmaGate g = new DmaGate();
        g.context(0, false, 9, 0);
        g.enter(9, 0, 3, true, 16);
        g.enter(9, 15, 3, true, 32);
        c.dueRead(g, 0, 0, 0, 0);
        c.dueRead(g, 0, 0xf0000, 0, 0);
        c.dueLeaf(g, 0, 0, 2, 0, 16, 3);
        c.dueLeaf(g, 1, 0, 2, 15, 32, 3);
        DmaGate h = new DmaGate();
        h.table(1024);
        h.fill(8 * 256, 256, 16 << 8 | 15, 0);
        h.fill(9 * 256, 256, 16 << 8 | 15, 0);
        h.fill(9 * 256, 16, 0, 0);
        h.context(0, false, 9, 0);
        for (int v = 0; v < 0x1000; v += 0x11) {
            c.dueRead(h, 0, v << 8 | v & 255, 0, 2);
        }
    }

    private static void entryBits() {
        c.sentence("An ENTRY: bit 0 VALID, 1 READ, 2 WRITE, 3 LEAF, bits 8 .. 13 a PAGE.");
        int[] pages = {0, 1, 32, 63};
        int[] others = {0, 0xffffc0f0};
        for (int page : pages) {
            for (int other : others) {
                for (int rights = 0; rights < 4; rights++) {
                    DmaGate g = firstAndLast();
                    g.table(1024);
                    g.context(0, false, 1, 0);
                    g.poke(3 * 256, other | page << 8 | rights << 1 | 1);
                    g.read(0, 0);
                    c.due("fault()", g.fault(), (rights & 1) != 0 ? 0 : 3);
                    c.dueLeaf(g, 0, 0, 0, 0, page, rights);
                    c.dueWrite(g, 0, 77, 5, (rights & 2) != 0 ? 0 : 3);
                    g.poke(3 * 256, other | page << 8 | rights << 1 | 8);
                    g.command(0, 0, 0);
                    g.obey(1);
                    c.dueRead(g, 0, 0, 0, 2);
                }
            }
        }
        DmaGate g = firstAndLast();
        g.poke(256, 0xffffc0f0 | 16 << 8 | 9);
        g.read(0, 0);
        c.dueLeaf(g, 0, 0, 2, 0, 16, 0);
    }

    private static void eachBitOfTheNumberLeads() {
        c.sentence("v is led so: level 2 by bits 8 .. 11 of v in the ROOT, "
                + "level 1 by bits 4 .. 7 in the ENTRY's PAGE, level 0 by bits 0 .. 3.");
        int[] numbers = {0, 1, 2, 4, 8, 0x10, 0x20, 0x40, 0x80, 0x100, 0x200, 0x400, 0x800, 0xf, 0xf0, 0xf00, 0xfff};
        for (int v : numbers) {
            DmaGate g = new DmaGate();
            g.context(0, false, 20, 0);
            g.enter(20, v >> 8, 0, false, 21);
            g.enter(21, v >> 4 & 15, 0, false, 22);
            g.enter(22, v & 15, 3, false, 23);
            g.poke(23 * 256 + 200, 9);
            c.dueRead(g, 0, v << 8 | 200, 9, 0);
            c.due("count(5)", g.count(5), 4);
            for (int other : numbers) {
                if (other != v) {
                    c.dueRead(g, 0, other << 8 | 200, 0, 2);
                }
            }
        }
    }

    private static void levelZeroIsALeaf() {
        c.sentence("At level 0 each ENTRY is a LEAF (bit 3 means nothing)");
        for (int leaf = 0; leaf < 2; leaf++) {
            DmaGate g = firstAndLast();
            g.enter(3, 0, 3, leaf == 1, 41);
            g.poke(41 * 256, 6);
            c.dueRead(g, 0, 0, 6, 0);
            c.due("count(5)", g.count(5), 4);
            c.dueLeaf(g, 0, 0, 0, 0, 41, 3);
        }
    }

    private static void leafIsForAllOfItsNumbers() {
        c.sentence("a LEAF at level L is for all 16^L PAGE NUMBERS with the same bits above");
        DmaGate g = new DmaGate();
        g.context(0, false, 1, 0);
        g.enter(1, 5, 0, false, 2);
        g.enter(2, 6, 0, false, 3);
        g.enter(3, 7, 3, false, 10);
        spanIs(g, 0x567, 0x567, 10);
        g.enter(2, 6, 3, true, 32);
        spanIs(g, 0x560, 0x56f, 32);
        g.enter(1, 5, 3, true, 0);
        spanIs(g, 0x500, 0x5ff, 0);
    }

    /** One LEAF, read anew for the first number, leads these numbers and no number beside them. */
    private static void spanIs(DmaGate g, int first, int last, int page) {
        for (int from = first; from <= last; from += last > first ? last - first : 1) {
            g.command(0, 0, 0);
            g.obey(1);
            c.dueRead(g, 0, from << 8, g.peek((page + (from - first)) % 64 * 256), 0);
            int reads = g.count(5);
            for (int v = first; v <= last; v++) {
                int place = (page + (v - first)) % 64 * 256 + 100;
                g.poke(place, v);
                c.dueRead(g, 0, v << 8 | 100, v, 0);
            }
            c.due("count(4)", g.count(4), 1);
            c.due("count(5)", g.count(5), reads);
            c.dueRead(g, 0, first - 1 << 8, 0, 2);
            c.dueRead(g, 0, last + 1 << 8, 0, 2);
        }
    }

    private static void lowestSixBitsOfTheSum() {
        c.sentence("v's PAGE is the LEAF's PAGE more v's lower 4 * L bits, of the sum the lowest 6 bits");
        int[] pages = {0, 16, 32, 48};
        int[] lower = {0, 1, 15, 16, 31, 32, 47, 48, 63, 64, 127, 128, 192, 254, 255};
        for (int page : pages) {
            DmaGate g = new DmaGate();
            g.table(16 * 40);
            g.context(0, false, 7, 0);
            g.enter(7, 3, 3, true, page);
            for (int low : lower) {
                int place = (page + low & 63) * 256 + 222;
                c.dueWrite(g, 0, (0x300 | low) << 8 | 222, 1000 + low, 0);
                c.due("level 2, PAGE " + page + " more " + low, g.peek(place), 1000 + low);
            }
            g.enter(7, 4, 0, false, 8);
            g.enter(8, 9, 3, true, page);
            for (int low = 0; low < 16; low++) {
                c.dueWrite(g, 0, (0x490 | low) << 8 | 221, 2000 + low, 0);
                c.due("level 1, PAGE " + page + " more " + low, g.peek((page + low) * 256 + 221), 2000 + low);
            }
        }
        DmaGate g = firstAndLast();
        g.enter(3, 0, 3, false, 63);
        c.dueWrite(g, 0, 255, 4, 0);
        c.due("level 0, PAGE 63", g.peek(16383), 4);
    }

    private static void rightsAreTheLeafs() {
        c.sentence("Rights are the LEAF's.");
        for (int above = 0; above < 4; above++) {
            for (int rights = 0; rights < 4; rights++) {
                DmaGate g = new DmaGate();
                g.context(0, false, 1, 0);
                g.enter(1, 0, above, false, 2);
                g.enter(2, 0, 3 - above, false, 3);
                g.enter(3, 0, rights, false, 10);
                g.enter(2, 1, rights, true, 16);
                c.dueRead(g, 0, 0, 0, (rights & 1) != 0 ? 0 : 3);
                c.dueWrite(g, 0, 0, 0, (rights & 2) != 0 ? 0 : 3);
                c.dueRead(g, 0, 0x1000, 0, (rights & 1) != 0 ? 0 : 3);
                c.dueWrite(g, 0, 0x1000, 0, (rights & 2) != 0 ? 0 : 3);
            }
        }
    }

    private static void faultOne() {
        c.sentence("FAULTS of an access: 1 the CONTEXT is not VALID");
        int[] first = {0, 2, 0xfffffffe, 63 << 8};
        for (int word : first) {
            DmaGate g = new DmaGate();
            g.poke(0, word);
            c.dueRead(g, 0, 16384, 0, 1);
            c.dueWrite(g, 0, 0, 5, 1);
            c.due("peek(0)", g.peek(0), word);
            c.dueRecord(g, 0, 1, 0, 0, 16384);
            c.dueRecord(g, 1, 1, 0, 1, 0);
            g.poke(0, word | 3);
            c.dueRead(g, 0, 0, word | 3, 0);
        }
    }

    private static void faultTwo() {
        c.sentence("2 an ENTRY is not VALID");
        int[] places = {256, 2 * 256, 3 * 256};
        for (int place : places) {
            DmaGate g = firstAndLast();
            int entry = g.peek(place);
            g.poke(place, entry & ~1);
            c.dueRead(g, 0, 5, 0, 2);
            c.dueWrite(g, 0, 5, 9, 2);
            c.dueRecord(g, 0, 2, 0, 0, 5);
            c.dueRecord(g, 1, 2, 0, 1, 5);
            c.due("count(4)", g.count(4), 0);
            c.due("count(5): ENTRIES up to that one, twice", g.count(5), 1 + 2 * (place / 256));
            g.poke(place, entry);
            c.dueRead(g, 0, 5, 0, 0);
        }
    }

    private static void faultThree() {
        c.sentence("3 the right is missing");
        DmaGate g = firstAndLast();
        g.poke(40 * 256 + 5, 6);
        g.enter(3, 0, 2, false, 40);
        c.dueRead(g, 0, 5, 0, 3);
        c.dueWrite(g, 0, 5, 7, 0);
        g.enter(3, 1, 1, false, 41);
        c.dueWrite(g, 0, 256 + 5, 7, 3);
        c.dueRead(g, 0, 256 + 5, 0, 0);
        g.enter(3, 2, 0, false, 42);
        c.dueWrite(g, 0, 512 + 5, 7, 3);
        c.dueRead(g, 0, 512 + 5, 0, 3);
        c.dueRecord(g, 0, 3, 0, 0, 5);
        c.dueRecord(g, 1, 3, 0, 1, 256 + 5);
        c.dueRecord(g, 2, 3, 0, 1, 512 + 5);
        c.dueRecord(g, 3, 3, 0, 0, 512 + 5);
        c.due("a refused write writes nothing", g.peek(41 * 256 + 5), 0);
    }

    private static void faultFourOfTwentyBits() {
        c.sentence("4 an ADDRESS above 20 bits");
        DmaGate g = firstAndLast();
        g.context(1, true, 0, 0);
        int[] above = {1 << 20, 1 << 20 | 5, 1 << 21, 1 << 30, 1 << 31, -1, Integer.MAX_VALUE};
        for (int a : above) {
            for (int d = 0; d < 3; d++) {
                g.clear();
                c.dueRead(g, d, a, 0, 4);
                c.dueWrite(g, d, a, 3, 4);
                c.dueRecord(g, 0, 4, d, 0, a);
                c.dueRecord(g, 1, 4, d, 1, a);
            }
        }
        c.due("count(3)", g.count(3), 0);
        c.due("count(5)", g.count(5), 0);
        c.dueRead(g, 0, (1 << 20) - 1, 0, 0);
    }

    private static void faultFourOfThrough() {
        c.sentence("or THROUGH and beyond MEMORY");
        DmaGate g = new DmaGate();
        g.context(1, true, 0, 0);
        g.poke(16383, 8);
        c.dueRead(g, 1, 16383, 8, 0);
        c.dueRead(g, 1, 16384, 0, 4);
        c.dueWrite(g, 1, 16384, 0, 4);
        c.dueRead(g, 1, (1 << 20) - 1, 0, 4);
        c.due("no CONTEXT is read again", g.count(5), 1);
        DmaGate h = firstAndLast();
        c.dueRead(h, 0, (1 << 20) - 1, 0, 0);
    }

    private static void faultFive() {
        c.sentence("5 a LEAF at level 1 or 2 whose PAGE's lower 4 bits are not 0");
        for (int page = 0; page < 64; page++) {
            DmaGate g = new DmaGate();
            g.table(1024);
            g.context(0, false, 1, 0);
            g.enter(1, 0, 3, true, page);
            g.enter(1, 1, 0, false, 2);
            g.enter(2, 0, 3, true, page);
            g.enter(2, 1, 0, false, 3);
            g.enter(3, 0, 3, false, page);
            int want = page % 16 == 0 ? 0 : 5;
            c.dueWrite(g, 0, 0x00064, 0, want);
            c.dueWrite(g, 0, 0x10064, 0, want);
            c.dueWrite(g, 0, 0x11064, 0, 0);
            c.due("count(4)", g.count(4), want == 0 ? 3 : 1);
        }
    }

    private static void order() {
        c.sentence("Asked in the order 4 (of 20 bits), 1, 4 (of THROUGH), then ENTRY by ENTRY 2, 5, then 3.");
        DmaGate g = new DmaGate();
        c.dueRead(g, 0, 1 << 20, 0, 4);
        g.poke(0, 2);
        c.dueRead(g, 0, 1 << 20, 0, 4);
        c.dueRead(g, 0, 1 << 19, 0, 1);
        g.poke(0, 3);
        c.dueRead(g, 0, 1 << 19, 0, 4);
        DmaGate h = new DmaGate();
        h.context(0, false, 1, 0);
        h.poke(256, 17 << 8 | 8);
        c.dueWrite(h, 0, 0, 0, 2);
        h.poke(256, 17 << 8 | 9);
        c.dueWrite(h, 0, 0, 0, 5);
        h.poke(256, 2 << 8 | 1);
        h.poke(512, 17 << 8 | 8);
        c.dueWrite(h, 0, 0, 0, 2);
        h.poke(512, 17 << 8 | 9);
        c.dueWrite(h, 0, 0, 0, 5);
        h.poke(512, 3 << 8 | 1);
        h.poke(768, 17 << 8);
        c.dueWrite(h, 0, 0, 0, 2);
        h.poke(768, 17 << 8 | 1);
        h.poke(256, 16 << 8 | 9);
        c.dueWrite(h, 0, 0, 0, 3);
        c.dueWrite(h, 0, 1 << 20, 0, 4);
        c.due("count(1)", h.count(1), 6);
        c.due("count(2)", h.count(2), 1);
    }
}
