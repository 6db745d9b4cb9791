/** Each sentence of Terms 2 (what is remembered, THE LOG) that names a boundary case. */
public final class RememberedBoundsTest {
    private static final Check c = new Check();

    public static void main(String[] args) {
        atMostThreeContexts();
        atMostSixLeaves();
        oneMoreContext();
        oneMoreLeaf();
        contextThatIsNotValid();
        rememberedContextLeads();
        leafWhateverItsRights();
        leafThatWasNotComeTo();
        firstOfSeveral();
        leafOfAnotherDomain();
        noEntryIsRead();
        threeIsAskedAlone();
        throughHasNone();
        logIsFull();
        flagStaysTillClear();
        recordIsLost();
        c.end("RememberedBoundsTest");
    }

    /** All devices are led by one ROOT, device d of DOMAIN d; PAGE NUMBERS 0 .. 15 are PAGES 20 .. 35. */
    private static DmaGate withTables() {
        DmaGate g = new DmaGate();
        for (int d = 0; d < 8; d++) {
            g.context(d, false, 1, d);
        }
        g.enter(1, 0, 0, false, 2);
        g.enter(2, 0, 0, false, 3);
        for (int i = 0; i < 16; i++) {
            g.enter(3, i, 3, false, 20 + i);
        }
        return g;
    }

    private static void atMostThreeContexts() {
        c.sentence("REMEMBERED: CONTEXTS of devices, at most 3");
        DmaGate g = withTables();
        for (int d = 0; d < 8; d++) {
            g.read(d, 0);
            c.due("count(3) behind device " + d, g.count(3), d < 3 ? d + 1 : 3);
        }
        g.read(7, 0);
        g.read(6, 0);
        g.read(5, 0);
        c.due("count(3): known ones make no more", g.count(3), 3);
    }

    private static void atMostSixLeaves() {
        c.sentence("LEAVES, at most 6");
        DmaGate g = withTables();
        for (int v = 0; v < 16; v++) {
            g.read(0, v << 8);
            c.due("count(4) behind PAGE NUMBER " + v, g.count(4), v < 6 ? v + 1 : 6);
        }
        for (int v = 10; v < 16; v++) {
            g.read(0, v << 8);
        }
        c.due("count(4): known ones make no more", g.count(4), 6);
        c.due("count(6)", g.count(6), 6);
        c.due("leaf(6, 0)", g.leaf(6, 0), -1);
    }

    /** Which of all devices are led with THE CONTEXT TABLE emptied, bit d for device d. */
    private static int remembered(DmaGate g) {
        g.fill(0, 16, 0, 0);
        int bits = 0;
        for (int d = 0; d < 8; d++) {
            g.read(d, 0);
            bits |= g.fault() != 1 ? 1 << d : 0;
        }
        return bits;
    }

    private static void oneMoreContext() {
        c.sentence("each a row in the order in which they came; where one more comes, the first goes", "CONTEXTS");
        int[] seen = {0, 1, 3, 7};
        for (int n = 0; n <= 8; n++) {
            DmaGate g = withTables();
            for (int d = 0; d < n; d++) {
                g.read(d, 0);
            }
            c.due("the latest of " + n, remembered(g), n < 3 ? seen[n] : 7 << n - 3);
        }
        DmaGate g = withTables();
        int[] order = {4, 2, 6, 4, 4, 2, 1};
        for (int d : order) {
            g.read(d, 0);
        }
        c.due("4 came first, however often it was used", remembered(g), 1 << 2 | 1 << 6 | 1 << 1);
        DmaGate h = withTables();
        int[] again = {0, 1, 2, 3, 0};
        for (int d : again) {
            h.read(d, 0);
        }
        c.due("0 came anew, behind 3", remembered(h), 1 << 2 | 1 << 3 | 1);
        DmaGate i = withTables();
        i.read(0, 0);
        i.read(1, 0);
        i.read(2, 0);
        i.command(3, 0, 0);
        i.obey(1);
        i.read(0, 0);
        i.read(3, 0);
        c.due("0 was forgotten and came anew, 1 is the first", remembered(i), 1 << 2 | 1 | 1 << 3);
    }

    private static void numbersAre(DmaGate g, int... numbers) {
        c.due("count(4)", g.count(4), numbers.length);
        for (int i = 0; i < numbers.length; i++) {
            c.due("leaf(" + i + ", 2)", g.leaf(i, 2), numbers[i]);
        }
    }

    private static void oneMoreLeaf() {
        c.sentence("each a row in the order in which they came; where one more comes, the first goes", "LEAVES");
        DmaGate g = withTables();
        int[] order = {9, 3, 7, 1, 0, 5};
        for (int v : order) {
            g.read(0, v << 8);
        }
        numbersAre(g, 9, 3, 7, 1, 0, 5);
        g.read(0, 9 << 8);
        g.read(0, 3 << 8);
        numbersAre(g, 9, 3, 7, 1, 0, 5);
        g.read(0, 8 << 8);
        numbersAre(g, 3, 7, 1, 0, 5, 8);
        g.read(0, 9 << 8);
        numbersAre(g, 7, 1, 0, 5, 8, 9);
        g.command(2, 0, 0);
        g.obey(1);
        numbersAre(g, 7, 1, 5, 8, 9);
        g.read(0, 0);
        numbersAre(g, 7, 1, 5, 8, 9, 0);
        for (int v = 10; v < 15; v++) {
            g.read(0, v << 8);
        }
        numbersAre(g, 0, 10, 11, 12, 13, 14);
        g.read(1, 15 << 8);
        numbersAre(g, 10, 11, 12, 13, 14, 15);
        c.due("of another DOMAIN, in the same row", g.leaf(5, 0), 1);
    }

    private static void contextThatIsNotValid() {
        c.sentence("A CONTEXT (VALID) that was read is remembered by its device");
        DmaGate g = withTables();
        g.poke(8, 0xfffffffe);
        g.read(1, 0);
        g.read(2, 0);
        g.read(3, 0);
        g.read(4, 0);
        c.due("fault()", g.fault(), 1);
        c.due("count(3)", g.count(3), 3);
        c.due("count(5)", g.count(5), 3 + 9 + 1);
        g.read(4, 0);
        c.due("it is read each time: count(5)", g.count(5), 3 + 9 + 2);
        c.due("the not VALID one put none out", remembered(g), 1 << 1 | 1 << 2 | 1 << 3);
        DmaGate h = withTables();
        h.enter(1, 0, 0, true, 17);
        h.read(5, 0);
        c.due("fault()", h.fault(), 5);
        c.due("VALID, the access refused: count(3)", h.count(3), 1);
        c.due("an ADDRESS above 20 bits reads none", h.write(6, -1, 0), false);
        c.due("count(3)", h.count(3), 1);
    }

    private static void rememberedContextLeads() {
        c.sentence("a device whose CONTEXT is remembered is led by that");
        DmaGate g = withTables();
        g.poke(20 * 256, 7);
        c.dueRead(g, 2, 0, 7, 0);
        g.context(2, true, 0, 0);
        c.dueRead(g, 2, 0, 7, 0);
        g.fill(0, 16, 0, 0);
        c.dueRead(g, 2, 0x100, 0, 0);
        g.table(4096);
        c.dueRead(g, 2, 0, 7, 0);
        c.due("count(5)", g.count(5), 1 + 3 + 3);
        g.command(3, 2, 0);
        g.obey(1);
        c.dueRead(g, 2, 0, 0, 1);
    }

    private static void leafWhateverItsRights() {
        c.sentence("A LEAF that was come to (whatever its rights) is remembered by DOMAIN, level, "
                + "the bits above 4 * L of v, with its PAGE, rights");
        DmaGate g = withTables();
        for (int rights = 0; rights < 4; rights++) {
            g.enter(3, rights, rights, false, 40 + rights);
            c.dueWrite(g, 5, rights << 8, 1, (rights & 2) != 0 ? 0 : 3);
            c.dueLeaf(g, rights, 5, 0, rights, 40 + rights, rights);
        }
        g.enter(1, 15, 0, true, 0);
        c.dueWrite(g, 5, 0xfffff, 1, 3);
        c.dueLeaf(g, 4, 5, 2, 15, 0, 0);
        g.enter(2, 15, 1, true, 48);
        c.dueWrite(g, 5, 0x0f000, 1, 3);
        c.dueLeaf(g, 5, 5, 1, 0x0f, 48, 1);
        c.due("count(4)", g.count(4), 6);
    }

    private static void leafThatWasNotComeTo() {
        c.sentence("A LEAF that was come to", "a FAULT 2 or 5 comes to none");
        DmaGate g = withTables();
        for (int v = 0; v < 6; v++) {
            g.read(0, v << 8);
        }
        g.enter(2, 1, 3, true, 17);
        c.dueRead(g, 0, 0x1000, 0, 5);
        g.enter(1, 1, 3, true, 40);
        c.dueRead(g, 0, 0x10000, 0, 5);
        c.dueRead(g, 0, 0x20000, 0, 2);
        numbersAre(g, 0, 1, 2, 3, 4, 5);
    }

    private static void firstOfSeveral() {
        c.sentence("an ADDRESS for which one of the DOMAIN is remembered (of several the first in the row) "
                + "is led by that");
        DmaGate g = withTables();
        g.poke(25 * 256, 1);
        g.poke(37 * 256, 2);
        c.dueRead(g, 0, 0x500, 1, 0);
        g.enter(2, 0, 3, true, 32);
        c.dueRead(g, 0, 0x600, 0, 0);
        c.dueLeaf(g, 0, 0, 0, 5, 25, 3);
        c.dueLeaf(g, 1, 0, 1, 0, 32, 3);
        c.dueRead(g, 0, 0x500, 1, 0);
        DmaGate h = withTables();
        h.poke(25 * 256, 1);
        h.poke(37 * 256, 2);
        h.enter(2, 0, 3, true, 32);
        c.dueRead(h, 0, 0x600, 0, 0);
        h.enter(2, 0, 3, false, 3);
        c.dueRead(h, 0, 0x500, 2, 0);
        c.due("count(4): no other is come to", h.count(4), 1);
    }

    private static void leafOfAnotherDomain() {
        c.sentence("an ADDRESS for which one of the DOMAIN is remembered", "another DOMAIN's leads it not");
        DmaGate g = withTables();
        g.context(7, false, 1, 0);
        g.poke(20 * 256, 1);
        g.poke(21 * 256, 2);
        c.dueRead(g, 0, 0, 1, 0);
        g.enter(3, 0, 3, false, 21);
        c.dueRead(g, 1, 0, 2, 0);
        c.due("count(6)", g.count(6), 0);
        c.dueRead(g, 7, 0, 1, 0);
        c.due("count(6)", g.count(6), 1);
        c.dueRead(g, 0, 0x100, 2, 0);
        c.due("another PAGE NUMBER: count(6)", g.count(6), 1);
    }

    private static void noEntryIsRead() {
        c.sentence("no ENTRY is read");
        DmaGate g = withTables();
        g.enter(2, 1, 3, true, 32);
        g.enter(1, 1, 3, true, 16);
        int[] addresses = {0, 0x1000, 0x10000};
        int[] want = {4, 6, 7};
        for (int k = 0; k < 3; k++) {
            g.read(0, addresses[k]);
            c.due("count(5)", g.count(5), want[k]);
            g.write(0, addresses[k] | 255, 0);
            g.read(0, addresses[k] | 1);
            c.due("count(5) as before", g.count(5), want[k]);
            c.due("count(6)", g.count(6), 2 * k + 2);
        }
        g.read(1, -1);
        c.due("an ADDRESS above 20 bits is led by none: count(6)", g.count(6), 6);
    }

    private static void threeIsAskedAlone() {
        c.sentence("then 3 is asked alone");
        DmaGate g = withTables();
        g.enter(2, 1, 1, true, 32);
        c.dueRead(g, 0, 0, 0, 0);
        c.dueRead(g, 0, 0x1000, 0, 0);
        g.fill(256, 16, 0, 0);
        c.dueRead(g, 0, 0, 0, 0);
        c.dueWrite(g, 0, 0, 1, 0);
        c.dueWrite(g, 0, 0x1000, 1, 3);
        c.dueRecord(g, 0, 3, 0, 1, 0x1000);
        g.fill(256, 16, 17 << 8 | 9, 0);
        g.fill(512, 16, 17 << 8 | 9, 0);
        c.dueRead(g, 0, 0x1fff, 0, 0);
        c.dueWrite(g, 0, 0x1fff, 1, 3);
        c.due("count(5)", g.count(5), 1 + 3 + 2);
    }

    private static void throughHasNone() {
        c.sentence("(THROUGH: none.)");
        DmaGate g = withTables();
        g.context(7, true, 1, 0);
        g.enter(3, 0, 0, false, 20);
        c.dueRead(g, 7, 0, g.peek(0), 0);
        c.due("count(4)", g.count(4), 0);
        c.due("count(5)", g.count(5), 1);
        c.dueRead(g, 0, 0, 0, 3);
        c.due("count(4)", g.count(4), 1);
        c.dueRead(g, 7, 0, g.peek(0), 0);
        c.dueWrite(g, 7, 255, 6, 0);
        c.due("peek(255)", g.peek(255), 6);
        c.due("count(6)", g.count(6), 0);
    }

    private static DmaGate withRecords(int n) {
        DmaGate g = new DmaGate();
        for (int k = 0; k < n; k++) {
            g.write(k % 8, k, 0);
        }
        return g;
    }

    private static void recordsAre(DmaGate g, int... addresses) {
        c.due("count(1)", g.count(1), addresses.length);
        for (int i = 0; i < addresses.length; i++) {
            c.dueRecord(g, i, 1, addresses[i] % 8, 1, addresses[i]);
        }
        c.due("record behind the last", g.record(addresses.length, 3), -1);
    }

    private static void logIsFull() {
        c.sentence("THE LOG keeps at most 6 RECORDS");
        for (int n = 0; n <= 9; n++) {
            DmaGate g = withRecords(n);
            c.due("count(1) behind " + n, g.count(1), n < 6 ? n : 6);
            c.due("record(5, 0) behind " + n, g.record(5, 0), n < 6 ? -1 : 1);
            c.due("record(6, 0) behind " + n, g.record(6, 0), -1);
        }
    }

    private static void flagStaysTillClear() {
        c.sentence("where it is full, it OVERFLOWS (a flag, till clear())");
        c.due("6: count(2)", withRecords(6).count(2), 0);
        DmaGate g = withRecords(7);
        c.due("7: count(2)", g.count(2), 1);
        for (int left = 5; left >= 0; left--) {
            c.due("drop()", g.drop(), left);
            c.due("count(2) behind drop()", g.count(2), 1);
        }
        c.due("drop()", g.drop(), -1);
        c.due("count(2) behind drop()", g.count(2), 1);
        g.read(0, 0);
        c.due("count(2) with room", g.count(2), 1);
        c.due("clear()", g.clear(), 1);
        c.due("count(2) behind clear()", g.count(2), 0);
    }

    private static void recordIsLost() {
        c.sentence("and the RECORD is lost");
        DmaGate g = withRecords(8);
        recordsAre(g, 0, 1, 2, 3, 4, 5);
        c.due("fault() tells it all the same", g.fault(), 1);
        g.drop();
        recordsAre(g, 1, 2, 3, 4, 5);
        g.write(4, 12, 0);
        recordsAre(g, 1, 2, 3, 4, 5, 12);
        g.write(5, 13, 0);
        recordsAre(g, 1, 2, 3, 4, 5, 12);
    }
}
