/** Promises 18 to 22: what is counted of the LOG, record, drop, clear, leaf. */
public final class LogTest {
    private static final Check c = new Check();

    public static void main(String[] args) {
        records();
        recordRefused();
        overflow();
        dropTillNone();
        clear();
        leafRefused();
        c.end("LogTest");
    }

    private static void records() {
        DmaGate g = new DmaGate();
        g.read(1, 10);
        g.write(2, 20, 0);
        g.context(3, false, 1, 0);
        g.write(3, -7, 0);
        g.read(3, 0xfffff);
        c.due("count(1)", g.count(1), 4);
        c.dueRecord(g, 0, 1, 1, 0, 10);
        c.dueRecord(g, 1, 1, 2, 1, 20);
        c.dueRecord(g, 2, 4, 3, 1, -7);
        c.dueRecord(g, 3, 2, 3, 0, 0xfffff);
    }

    private static void recordRefused() {
        DmaGate g = new DmaGate();
        g.read(1, 10);
        g.read(1, 11);
        int[] no = {-1, 2, 5, 6, Integer.MIN_VALUE, Integer.MAX_VALUE};
        for (int i : no) {
            c.due("record(" + i + ", 1)", g.record(i, 1), -1);
        }
        int[] noWhat = {-1, 4, 5, Integer.MIN_VALUE, Integer.MAX_VALUE};
        for (int what : noWhat) {
            c.due("record(0, " + what + ")", g.record(0, what), -1);
            c.due("record(1, " + what + ")", g.record(1, what), -1);
        }
    }

    private static void overflow() {
        DmaGate g = new DmaGate();
        for (int k = 0; k < 6; k++) {
            g.read(0, k);
            c.due("count(1)", g.count(1), k + 1);
            c.due("count(2)", g.count(2), 0);
        }
        g.write(0, 6, 1);
        c.due("count(1)", g.count(1), 6);
        c.due("count(2)", g.count(2), 1);
        c.due("fault() all the same", g.fault(), 1);
        c.dueRecord(g, 0, 1, 0, 0, 0);
        c.dueRecord(g, 5, 1, 0, 0, 5);
        c.due("drop()", g.drop(), 5);
        c.due("the flag stays till clear()", g.count(2), 1);
        g.read(0, 7);
        c.dueRecord(g, 0, 1, 0, 0, 1);
        c.dueRecord(g, 5, 1, 0, 0, 7);
        c.due("clear()", g.clear(), 6);
        c.due("count(2)", g.count(2), 0);
        for (int k = 0; k < 6; k++) {
            g.read(0, 20 + k);
        }
        c.due("count(2)", g.count(2), 0);
        c.dueRecord(g, 0, 1, 0, 0, 20);
    }

    private static void dropTillNone() {
        DmaGate g = new DmaGate();
        g.read(0, 1);
        g.read(0, 2);
        g.read(0, 3);
        c.due("drop()", g.drop(), 2);
        c.dueRecord(g, 0, 1, 0, 0, 2);
        c.dueRecord(g, 1, 1, 0, 0, 3);
        c.due("record(2, 0)", g.record(2, 0), -1);
        c.due("drop()", g.drop(), 1);
        c.due("drop()", g.drop(), 0);
        c.due("drop() without one", g.drop(), -1);
        c.due("count(1)", g.count(1), 0);
    }

    private static void clear() {
        DmaGate g = new DmaGate();
        g.read(0, 1);
        g.read(0, 2);
        c.due("clear()", g.clear(), 2);
        c.due("count(1)", g.count(1), 0);
        c.due("record(0, 0)", g.record(0, 0), -1);
        c.due("clear()", g.clear(), 0);
        c.due("count(5) stays", g.count(5), 2);
    }

    private static void leafRefused() {
        DmaGate g = new DmaGate();
        g.context(0, false, 1, 7);
        g.enter(1, 2, 2, true, 16);
        g.enter(1, 3, 1, true, 48);
        g.read(0, 0x20000);
        g.read(0, 0x30000);
        c.dueLeaf(g, 0, 7, 2, 2, 16, 2);
        c.dueLeaf(g, 1, 7, 2, 3, 48, 1);
        int[] no = {-1, 2, 5, 6, Integer.MIN_VALUE, Integer.MAX_VALUE};
        for (int i : no) {
            c.due("leaf(" + i + ", 3)", g.leaf(i, 3), -1);
        }
        int[] noWhat = {-1, 5, 6, Integer.MIN_VALUE, Integer.MAX_VALUE};
        for (int what : noWhat) {
            c.due("leaf(0, " + what + ")", g.leaf(0, what), -1);
            c.due("leaf(1, " + what + ")", g.leaf(1, what), -1);
        }
    }
}
