/** Promises 8 to 10: read, write, fault, with the FAULTS and what is remembered (Terms 1 and 2). */
public final class AccessTest {
    private static final Check c = new Check();

    public static void main(String[] args) {
        noSuchDevice();
        faultOfAddressComesFirst();
        contextNotValid();
        through();
        firstPlaceIsAPlace();
        ledByThreeLevels();
        eachLevelMayBeInvalid();
        bigLeaves();
        sumIsOfSixBits();
        crookedLeaves();
        levelZeroIsAlwaysALeaf();
        rights();
        otherBitsMeanNothing();
        contextsRemembered();
        leavesRemembered();
        leavesAreOfADomain();
        firstOfSeveralLeads();
        faultOfTheLatest();
        c.end("AccessTest");
    }

    /** Device d, ROOT 1, tables in PAGES 2 and 3 for PAGE NUMBERS 0 to 15. */
    private static DmaGate withTables(int d, int domain) {
        DmaGate g = new DmaGate();
        g.context(d, false, 1, domain);
        g.enter(1, 0, 0, false, 2);
        g.enter(2, 0, 0, false, 3);
        return g;
    }

    private static void noSuchDevice() {
        DmaGate g = new DmaGate();
        int[] none = {-1, 8, Integer.MIN_VALUE, Integer.MAX_VALUE};
        for (int d : none) {
            g.read(0, 0);
            c.due("fault()", g.fault(), 1);
            c.readThrows(g, d);
            c.due("fault() behind read of no device", g.fault(), 0);
            g.read(0, 0);
            c.due("write by " + d, g.write(d, 0, 5), false);
            c.due("fault() behind write of no device", g.fault(), 0);
        }
        c.due("count(5): nothing read for them", g.count(5), 8);
        c.due("count(1)", g.count(1), 6);
        g.clear();
        c.readThrows(g, 8);
        g.write(8, 0, 5);
        c.due("count(1): no RECORD for them", g.count(1), 0);
    }

    private static void faultOfAddressComesFirst() {
        DmaGate g = new DmaGate();
        int[] far = {-1, 1 << 20, Integer.MIN_VALUE, Integer.MAX_VALUE};
        for (int i = 0; i < far.length; i++) {
            c.due("write(2, " + far[i] + ", 5)", g.write(2, far[i], 5), false);
            c.due("fault()", g.fault(), 4);
            c.dueRecord(g, i, 4, 2, 1, far[i]);
        }
        c.due("count(5): no CONTEXT is read", g.count(5), 0);
        c.due("read(2, 2^20 - 1)", g.read(2, (1 << 20) - 1), 0);
        c.due("fault()", g.fault(), 1);
        c.due("count(5)", g.count(5), 1);
    }

    private static void contextNotValid() {
        DmaGate g = new DmaGate();
        g.fill(0, 16, -2, 0);
        for (int d = 0; d < 8; d++) {
            c.due("read(" + d + ", 5)", g.read(d, 5), 0);
            c.due("fault()", g.fault(), 1);
        }
        c.due("count(3): none is remembered", g.count(3), 0);
        c.due("count(5): each was read", g.count(5), 8);
    }

    private static void through() {
        DmaGate g = new DmaGate();
        g.context(2, true, 0, 0);
        c.due("write(2, 16383, 7)", g.write(2, 16383, 7), true);
        c.due("peek(16383)", g.peek(16383), 7);
        c.due("read(2, 16383)", g.read(2, 16383), 7);
        int[] far = {16384, 32768, 1 << 17, 1 << 19, (1 << 20) - 1};
        for (int a : far) {
            c.due("read(2, " + a + ")", g.read(2, a), 0);
            c.due("fault()", g.fault(), 4);
        }
        c.due("count(3)", g.count(3), 1);
        c.due("count(4)", g.count(4), 0);
        c.due("count(5)", g.count(5), 1);
        c.due("count(6)", g.count(6), 0);
        DmaGate h = new DmaGate();
        h.context(1, true, 0, 0);
        h.read(1, 16384);
        c.due("a VALID CONTEXT is remembered, the access refused", h.count(3), 1);
    }

    private static void firstPlaceIsAPlace() {
        DmaGate g = new DmaGate();
        g.table(1024);
        g.context(2, true, 0, 0);
        c.due("write(2, 0, 7)", g.write(2, 0, 7), true);
        c.due("peek(0)", g.peek(0), 7);
        c.due("read(2, 0)", g.read(2, 0), 7);
        c.due("fault()", g.fault(), 0);
        c.due("count(1)", g.count(1), 0);
    }

    private static void ledByThreeLevels() {
        DmaGate g = new DmaGate();
        g.context(6, false, 10, 4);
        g.enter(10, 0xa, 0, false, 20);
        g.enter(20, 0xb, 0, false, 30);
        g.enter(30, 0xc, 3, false, 40);
        g.poke(40 * 256 + 0xde, 77);
        c.due("read(6, 0xabcde)", g.read(6, 0xabcde), 77);
        c.due("fault()", g.fault(), 0);
        c.due("count(5): a CONTEXT, three ENTRIES", g.count(5), 4);
        c.dueLeaf(g, 0, 4, 0, 0xabc, 40, 3);
        c.due("write(6, 0xabcff, 8)", g.write(6, 0xabcff, 8), true);
        c.due("peek", g.peek(40 * 256 + 0xff), 8);
        c.due("count(5)", g.count(5), 4);
        c.due("count(6)", g.count(6), 1);
        c.due("count(3)", g.count(3), 1);
        c.due("count(4)", g.count(4), 1);
    }

    private static void eachLevelMayBeInvalid() {
        DmaGate g = new DmaGate();
        g.context(0, false, 1, 0);
        g.read(0, 0);
        c.due("level 2: fault()", g.fault(), 2);
        c.due("level 2: count(5)", g.count(5), 2);
        g.enter(1, 0, 3, false, 2);
        g.read(0, 0);
        c.due("level 1: fault()", g.fault(), 2);
        c.due("level 1: count(5)", g.count(5), 4);
        g.enter(2, 0, 3, false, 3);
        g.read(0, 0);
        c.due("level 0: fault()", g.fault(), 2);
        c.due("level 0: count(5)", g.count(5), 7);
        c.due("count(4): no LEAF was come to", g.count(4), 0);
        g.poke(256, 15 << 8 | 14);
        g.read(0, 0);
        c.due("not VALID, the other bits set: fault()", g.fault(), 2);
    }

    private static void bigLeaves() {
        DmaGate g = new DmaGate();
        g.context(0, false, 1, 9);
        g.enter(1, 15, 3, true, 32);
        c.due("write(0, 0xf0000, 1)", g.write(0, 0xf0000, 1), true);
        c.due("peek", g.peek(32 * 256), 1);
        c.dueLeaf(g, 0, 9, 2, 15, 32, 3);
        c.due("write(0, 0xf1f12, 2)", g.write(0, 0xf1f12, 2), true);
        c.due("peek", g.peek(63 * 256 + 0x12), 2);
        g.enter(1, 0, 0, false, 2);
        g.enter(2, 7, 3, true, 48);
        c.due("write(0, 0x07f34, 3)", g.write(0, 0x07f34, 3), true);
        c.due("peek", g.peek(63 * 256 + 0x34), 3);
        c.dueLeaf(g, 1, 9, 1, 7, 48, 3);
        c.due("write(0, 0x07034, 4)", g.write(0, 0x07034, 4), true);
        c.due("peek", g.peek(48 * 256 + 0x34), 4);
        c.due("count(4)", g.count(4), 2);
        c.due("count(5)", g.count(5), 4);
        c.due("count(6)", g.count(6), 2);
    }

    private static void sumIsOfSixBits() {
        DmaGate g = new DmaGate();
        g.context(0, false, 1, 0);
        g.enter(1, 3, 3, true, 48);
        c.due("write(0, 0x3ff05, 6)", g.write(0, 0x3ff05, 6), true);
        c.due("PAGE 48 + 255 is 303, of six bits 47", g.peek(47 * 256 + 5), 6);
        c.due("write(0, 0x31006, 7)", g.write(0, 0x31006, 7), true);
        c.due("PAGE 48 + 16 is 64, of six bits 0", g.peek(6), 7);
    }

    private static void crookedLeaves() {
        for (int low = 1; low < 16; low++) {
            DmaGate g = new DmaGate();
            g.context(0, false, 1, 0);
            g.enter(1, 0, 3, true, 16 + low);
            g.read(0, 0);
            c.due("level 2, PAGE " + (16 + low) + ": fault()", g.fault(), 5);
            c.due("count(5)", g.count(5), 2);
            g.enter(1, 0, 0, false, 2);
            g.enter(2, 0, 0, true, 32 + low);
            c.due("level 1, no rights", g.write(0, 0, 1), false);
            c.due("5 is asked ahead of 3: fault()", g.fault(), 5);
            c.due("count(5)", g.count(5), 4);
            c.due("count(4): none is remembered", g.count(4), 0);
        }
    }

    private static void levelZeroIsAlwaysALeaf() {
        DmaGate g = withTables(0, 0);
        g.enter(3, 1, 3, true, 17);
        g.enter(3, 2, 3, false, 18);
        c.due("write(0, 0x100, 1)", g.write(0, 0x100, 1), true);
        c.due("peek", g.peek(17 * 256), 1);
        c.due("write(0, 0x200, 2)", g.write(0, 0x200, 2), true);
        c.due("peek", g.peek(18 * 256), 2);
    }

    private static void rights() {
        DmaGate g = withTables(0, 0);
        for (int rights = 0; rights < 4; rights++) {
            g.enter(3, rights, rights, false, 20 + rights);
            g.poke((20 + rights) * 256, 5);
            boolean mayRead = (rights & 1) != 0;
            boolean mayWrite = (rights & 2) != 0;
            c.due("read", g.read(0, rights << 8), mayRead ? 5 : 0);
            c.due("fault()", g.fault(), mayRead ? 0 : 3);
            c.due("remembered, whatever its rights", g.count(4), rights + 1);
            c.dueLeaf(g, rights, 0, 0, rights, 20 + rights, rights);
            c.due("write", g.write(0, rights << 8, 6), mayWrite);
            c.due("fault()", g.fault(), mayWrite ? 0 : 3);
            c.due("peek", g.peek((20 + rights) * 256), mayWrite ? 6 : 5);
        }
        c.due("count(6): led by a LEAF, refused or not", g.count(6), 4);
        c.dueRecord(g, 0, 3, 0, 0, 0);
        c.dueRecord(g, 1, 3, 0, 1, 0);
        c.dueRecord(g, 2, 3, 0, 1, 0x100);
        c.dueRecord(g, 3, 3, 0, 0, 0x200);
        c.due("count(1)", g.count(1), 4);
    }

    private static void otherBitsMeanNothing() {
        DmaGate g = new DmaGate();
        int high = 0xffffc000;
        g.poke(0, high | 1 << 8 | 0xfc | 1);
        g.poke(1, 0xfffffff0 | 6);
        g.poke(256, high | 2 << 8 | 0xf0 | 1);
        g.poke(512, high | 3 << 8 | 0xf0 | 1);
        g.poke(768, high | 9 << 8 | 0xf8 | 3);
        g.poke(9 * 256 + 1, 44);
        c.due("read(0, 1)", g.read(0, 1), 44);
        c.due("fault()", g.fault(), 0);
        c.dueLeaf(g, 0, 6, 0, 0, 9, 1);
    }

    private static void contextsRemembered() {
        DmaGate g = new DmaGate();
        for (int d = 0; d < 8; d++) {
            g.context(d, true, 0, 0);
        }
        g.read(0, 100);
        g.read(1, 100);
        g.read(2, 100);
        c.due("count(3)", g.count(3), 3);
        g.read(0, 100);
        c.due("count(5): 0 is remembered", g.count(5), 3);
        g.read(3, 100);
        c.due("count(3)", g.count(3), 3);
        g.fill(0, 16, 0, 0);
        g.read(1, 100);
        c.due("1 is remembered", g.fault(), 0);
        g.read(2, 100);
        c.due("2 is remembered", g.fault(), 0);
        g.read(3, 100);
        c.due("3 is remembered", g.fault(), 0);
        g.read(0, 100);
        c.due("0, the first, is gone, used later or not", g.fault(), 1);
        c.due("a CONTEXT that is not VALID puts none out", g.count(3), 3);
        g.read(1, 100);
        c.due("1 is remembered", g.fault(), 0);
    }

    private static void leavesRemembered() {
        DmaGate g = withTables(0, 5);
        for (int i = 0; i < 8; i++) {
            g.enter(3, i, 3, false, 10 + i);
        }
        for (int i = 0; i < 6; i++) {
            g.write(0, i << 8, i);
        }
        g.write(0, 0, 1);
        c.due("count(4)", g.count(4), 6);
        c.due("count(5)", g.count(5), 1 + 18);
        c.due("count(6)", g.count(6), 1);
        g.write(0, 6 << 8, 6);
        c.due("count(4)", g.count(4), 6);
        for (int i = 0; i < 6; i++) {
            c.dueLeaf(g, i, 5, 0, i + 1, 11 + i, 3);
        }
        g.fill(768, 16, 0, 0);
        c.due("1 is led by what is remembered", g.write(0, 1 << 8, 9), true);
        c.due("0 is gone", g.write(0, 0, 9), false);
        c.due("fault()", g.fault(), 2);
        g.fill(0, 16, 0, 0);
        c.due("the CONTEXT is remembered too", g.write(0, 1 << 8, 10), true);
        c.due("peek", g.peek(11 * 256), 10);
    }

    private static void leavesAreOfADomain() {
        DmaGate g = withTables(0, 5);
        g.context(1, false, 1, 5);
        g.context(2, false, 1, 6);
        g.enter(3, 0, 3, false, 10);
        g.poke(2560, 3);
        g.read(0, 0);
        g.enter(3, 0, 3, false, 11);
        c.due("another device of the DOMAIN", g.read(1, 0), 3);
        c.due("count(6)", g.count(6), 1);
        c.due("a device of another DOMAIN", g.read(2, 0), 0);
        c.due("fault()", g.fault(), 0);
        c.due("count(6)", g.count(6), 1);
        c.dueLeaf(g, 0, 5, 0, 0, 10, 3);
        c.dueLeaf(g, 1, 6, 0, 0, 11, 3);
    }

    private static void firstOfSeveralLeads() {
        DmaGate g = withTables(0, 0);
        g.enter(3, 5, 1, false, 10);
        g.read(0, 0x500);
        g.enter(1, 0, 3, true, 16);
        g.read(0, 0x600);
        c.dueLeaf(g, 0, 0, 0, 5, 10, 1);
        c.dueLeaf(g, 1, 0, 2, 0, 16, 3);
        c.due("the first in the row has no WRITE", g.write(0, 0x500, 1), false);
        c.due("fault(): the later one is not asked", g.fault(), 3);
        g.command(2, 0, 6);
        g.obey(1);
        c.due("count(4): the wide one is gone", g.count(4), 1);
        g.read(0, 0x600);
        g.command(2, 0, 5);
        g.obey(1);
        c.due("count(4): both were for 5", g.count(4), 0);
        g.read(0, 0x600);
        g.enter(1, 0, 0, false, 2);
        c.due("the wide one leads 5 now", g.write(0, 0x500, 8), true);
        c.due("peek", g.peek(21 * 256), 8);
    }

    private static void faultOfTheLatest() {
        DmaGate g = withTables(0, 0);
        g.enter(3, 0, 1, false, 10);
        g.write(0, 0, 1);
        c.due("fault() behind write", g.fault(), 3);
        c.due("fault() again", g.fault(), 3);
        g.poke(5000, 1);
        g.table(8);
        g.count(0);
        c.due("fault() behind other calls", g.fault(), 3);
        g.read(0, 0);
        c.due("fault() behind read", g.fault(), 0);
        g.read(0, 1 << 20);
        c.due("fault()", g.fault(), 4);
        g.clear();
        c.due("fault() behind clear", g.fault(), 4);
        g.step(0, 9);
        c.due("fault() behind step() of an idle engine", g.fault(), 4);
    }
}
