/** Promises 16 to 18: command, obey, count (Terms 4). */
public final class CommandTest {
    private static final Check c = new Check();

    public static void main(String[] args) {
        waitInARow();
        commandRefused();
        obeyRefused();
        inTheirOrder();
        allLeaves();
        leavesOfADomain();
        leavesForAPage();
        pagesBeyond();
        contextOfADevice();
        allContexts();
        wordOfMemory();
        countRefused();
        c.end("CommandTest");
    }

    private static void once(DmaGate g, int code, int a, int b) {
        g.command(code, a, b);
        g.obey(1);
    }

    private static void waitInARow() {
        DmaGate g = new DmaGate();
        for (int k = 1; k <= 12; k++) {
            c.due("command", g.command(5, 100 + k, k), k);
            c.due("count(0)", g.count(0), k);
        }
        c.due("12 wait", g.command(5, 200, 200), -1);
        c.due("count(0)", g.count(0), 12);
        c.due("nothing is done so far", g.peek(101), 0);
        c.due("obey(0)", g.obey(0), 0);
        c.due("obey(5)", g.obey(5), 5);
        c.due("count(0)", g.count(0), 7);
        c.due("peek(105)", g.peek(105), 5);
        c.due("peek(106)", g.peek(106), 0);
        c.due("command", g.command(5, 113, 13), 8);
        c.due("obey(MAX)", g.obey(Integer.MAX_VALUE), 8);
        c.due("count(0)", g.count(0), 0);
        for (int k = 1; k <= 13; k++) {
            c.due("peek(" + (100 + k) + ")", g.peek(100 + k), k);
        }
        c.due("peek(200)", g.peek(200), 0);
        c.due("obey(1)", g.obey(1), 0);
    }

    private static void commandRefused() {
        DmaGate g = new DmaGate();
        int[] no = {-1, 6, Integer.MIN_VALUE, Integer.MAX_VALUE};
        for (int code : no) {
            c.due("command(" + code + ", 0, 0)", g.command(code, 0, 0), -1);
        }
        c.due("count(0)", g.count(0), 0);
        for (int code = 0; code <= 5; code++) {
            c.due("any a, b wait", g.command(code, Integer.MIN_VALUE, Integer.MAX_VALUE), code + 1);
        }
        c.due("obey(6)", g.obey(6), 6);
    }

    private static void obeyRefused() {
        DmaGate g = new DmaGate();
        g.command(5, 1, 1);
        c.due("obey(-1)", g.obey(-1), -1);
        c.due("obey(MIN)", g.obey(Integer.MIN_VALUE), -1);
        c.due("count(0)", g.count(0), 1);
        c.due("peek(1)", g.peek(1), 0);
    }

    private static void inTheirOrder() {
        DmaGate g = new DmaGate();
        g.command(5, 7, 1);
        g.command(5, 7, 2);
        g.command(5, 8, 3);
        g.obey(2);
        c.due("peek(7)", g.peek(7), 2);
        c.due("peek(8)", g.peek(8), 0);
    }

    /** Devices 1 to 3 of DOMAINS 1 to 3; each came to LEAVES of levels 0 (PAGE NUMBER 5) and 2. */
    private static DmaGate withLeaves() {
        DmaGate g = new DmaGate();
        g.enter(1, 0, 0, false, 2);
        g.enter(2, 0, 0, false, 3);
        g.enter(3, 5, 3, false, 10);
        g.enter(1, 1, 3, true, 16);
        for (int d = 1; d <= 3; d++) {
            g.context(d, false, 1, d);
            g.read(d, 0x500);
            g.read(d, 0x12300);
        }
        c.due("count(4)", g.count(4), 6);
        c.due("count(3)", g.count(3), 3);
        return g;
    }

    private static void allLeaves() {
        DmaGate g = withLeaves();
        once(g, 0, 0, 0);
        c.due("count(4)", g.count(4), 0);
        c.due("count(3)", g.count(3), 3);
        c.due("leaf(0, 0)", g.leaf(0, 0), -1);
        g.read(1, 0x500);
        c.dueLeaf(g, 0, 1, 0, 5, 10, 3);
    }

    private static void leavesOfADomain() {
        DmaGate g = withLeaves();
        once(g, 1, 2, 0);
        c.due("count(4)", g.count(4), 4);
        c.dueLeaf(g, 0, 1, 0, 5, 10, 3);
        c.dueLeaf(g, 1, 1, 2, 1, 16, 3);
        c.dueLeaf(g, 2, 3, 0, 5, 10, 3);
        c.dueLeaf(g, 3, 3, 2, 1, 16, 3);
        int[] others = {0, 2, 15, 16, -1, 17, Integer.MIN_VALUE, Integer.MAX_VALUE};
        for (int a : others) {
            once(g, 1, a, 1);
            c.due("no LEAF of DOMAIN " + a, g.count(4), 4);
        }
        once(g, 1, 3, 0);
        c.due("count(4)", g.count(4), 2);
        once(g, 1, 1, 0);
        c.due("count(4)", g.count(4), 0);
        c.due("count(3)", g.count(3), 3);
    }

    private static void leavesForAPage() {
        DmaGate g = withLeaves();
        once(g, 2, 2, 5);
        c.due("count(4)", g.count(4), 5);
        c.dueLeaf(g, 2, 2, 2, 1, 16, 3);
        once(g, 2, 2, 0x1ff);
        c.due("count(4)", g.count(4), 4);
        once(g, 2, 1, 0x100);
        c.due("count(4)", g.count(4), 3);
        c.dueLeaf(g, 0, 1, 0, 5, 10, 3);
        c.dueLeaf(g, 1, 3, 0, 5, 10, 3);
        once(g, 2, 3, 0x200);
        once(g, 2, 3, 0xff);
        once(g, 2, 3, 4);
        once(g, 2, 4, 5);
        once(g, 2, 16, 5);
        c.due("count(4): none was for these", g.count(4), 3);
        c.due("the CONTEXTS stay", g.count(3), 3);
        DmaGate h = new DmaGate();
        h.context(0, false, 1, 0);
        h.enter(1, 0, 0, false, 2);
        h.enter(2, 3, 3, true, 32);
        h.read(0, 0x3500);
        once(h, 2, 0, 0x2f);
        once(h, 2, 0, 0x40);
        c.due("count(4)", h.count(4), 1);
        once(h, 2, 0, 0x3f);
        c.due("level 1: count(4)", h.count(4), 0);
    }

    private static void pagesBeyond() {
        DmaGate g = withLeaves();
        int[] beyond = {0x1005, 0x1100, 0x1123, 0x10000123, -1, 0xfffff123, Integer.MIN_VALUE, Integer.MAX_VALUE};
        for (int b : beyond) {
            for (int d = 1; d <= 3; d++) {
                once(g, 2, d, b);
            }
            c.due("no such PAGE NUMBER " + b, g.count(4), 6);
        }
    }

    private static void contextOfADevice() {
        DmaGate g = withLeaves();
        int[] others = {0, 4, 8, -1, Integer.MIN_VALUE, Integer.MAX_VALUE};
        for (int a : others) {
            once(g, 3, a, 1);
            c.due("count(3)", g.count(3), 3);
        }
        once(g, 3, 2, 0);
        c.due("count(3)", g.count(3), 2);
        c.due("the LEAVES stay", g.count(4), 6);
        g.fill(0, 16, 0, 0);
        g.read(2, 0x500);
        c.due("fault()", g.fault(), 1);
        g.read(1, 0x500);
        c.due("fault()", g.fault(), 0);
        g.read(3, 0x500);
        c.due("fault()", g.fault(), 0);
    }

    private static void allContexts() {
        DmaGate g = withLeaves();
        once(g, 4, 1, 1);
        c.due("count(3)", g.count(3), 0);
        c.due("MEMORY stays", g.peek(1), 0);
        c.due("the LEAVES stay", g.count(4), 6);
        g.read(1, 0x500);
        c.due("count(3)", g.count(3), 1);
        c.due("count(6)", g.count(6), 1);
    }

    private static void wordOfMemory() {
        DmaGate g = new DmaGate();
        int[] beyond = {-1, 16384, Integer.MIN_VALUE, Integer.MAX_VALUE};
        for (int a : beyond) {
            g.command(5, a, 9);
        }
        c.due("obey(4): they are done all the same", g.obey(4), 4);
        for (int i = 0; i < 16384; i++) {
            c.due("peek(" + i + ")", g.peek(i), 0);
        }
        once(g, 5, 0, -3);
        once(g, 5, 16383, Integer.MIN_VALUE);
        c.due("peek(0)", g.peek(0), -3);
        c.due("peek(16383)", g.peek(16383), Integer.MIN_VALUE);
    }

    private static void countRefused() {
        DmaGate g = withLeaves();
        g.table(48);
        g.read(7, 0);
        g.command(0, 0, 0);
        int[] want = {1, 1, 0, 3, 6, 3 + 3 * 4 + 1, 0, 48};
        for (int what = 0; what < want.length; what++) {
            c.due("count(" + what + ")", g.count(what), want[what]);
        }
        int[] no = {-1, 8, Integer.MIN_VALUE, Integer.MAX_VALUE};
        for (int what : no) {
            c.due("count(" + what + ")", g.count(what), -1);
        }
    }
}
