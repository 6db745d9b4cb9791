/** Each sentence of promises 19 to 22 (record, drop, clear, leaf) that names a boundary case. */
public final class LogBoundsTest {
    private static final Check c = new Check();
    private static final int MIN = Integer.MIN_VALUE;
    private static final int MAX = Integer.MAX_VALUE;

    public static void main(String[] args) {
        recordTells();
        recordNoneSuch();
        recordNoWhat();
        dropTheEarliest();
        dropWithoutOne();
        clearEmpties();
        clearOfNone();
        leafTells();
        leafNoneSuch();
        leafNoWhat();
        c.end("LogBoundsTest");
    }

    private static DmaGate withRecords(int n) {
        DmaGate g = new DmaGate();
        for (int k = 0; k < n; k++) {
            g.read(7 - k % 8, 50 + k);
        }
        return g;
    }

    private static void recordTells() {
        c.sentence("Of RECORD i (the earliest 0), what 0: FAULT, 1: device, 2: whether it was a write (1, 0), "
                + "3: ADDRESS.");
        DmaGate g = new DmaGate();
        g.context(7, true, 0, 0);
        g.read(0, 0);
        g.write(7, 16384, 0);
        g.read(7, 0xfffff);
        g.write(7, MIN, 0);
        g.read(7, MAX);
        g.write(0, -1, 0);
        c.dueRecord(g, 0, 1, 0, 0, 0);
        c.dueRecord(g, 1, 4, 7, 1, 16384);
        c.dueRecord(g, 2, 4, 7, 0, 0xfffff);
        c.dueRecord(g, 3, 4, 7, 1, MIN);
        c.dueRecord(g, 4, 4, 7, 0, MAX);
        c.dueRecord(g, 5, 4, 0, 1, -1);
    }

    private static void recordNoneSuch() {
        c.sentence("NONE: none such, another what.", "record: none such");
        for (int n = 0; n <= 8; n++) {
            int kept = n < 6 ? n : 6;
            int[] no = {-1, kept, 6, 7, MIN, MAX};
            for (int i : no) {
                for (int what = 0; what < 4; what++) {
                    c.due("record(" + i + ", " + what + ") of " + kept, withRecords(n).record(i, what), -1);
                }
            }
            c.due("the last", kept == 0 || withRecords(n).record(kept - 1, 0) == 1, true);
        }
        DmaGate g = withRecords(2);
        g.drop();
        c.due("behind drop()", g.record(1, 0), -1);
        g.clear();
        c.due("behind clear()", g.record(0, 0), -1);
        int[] no = {-1, 6, MIN, MAX};
        for (int i : no) {
            Gates.refused(c, "record(" + i + ", 0)", x -> x.record(i, 0));
        }
    }

    private static void recordNoWhat() {
        c.sentence("NONE: none such, another what.", "record: another what");
        int[] no = {-1, 4, 5, 6, MIN, MAX};
        for (int what : no) {
            for (int i = 0; i < 6; i++) {
                c.due("record(" + i + ", " + what + ")", withRecords(6).record(i, what), -1);
            }
            Gates.refused(c, "record(0, " + what + ")", g -> g.record(0, what));
        }
    }

    private static void dropTheEarliest() {
        c.sentence("The earliest RECORD is gone: how many are left");
        DmaGate g = withRecords(6);
        for (int left = 5; left >= 0; left--) {
            c.due("drop()", g.drop(), left);
            c.due("count(1)", g.count(1), left);
            for (int i = 0; i < left; i++) {
                c.dueRecord(g, i, 1, 7 - (6 - left + i), 0, 50 + 6 - left + i);
            }
            c.due("record(" + left + ", 0)", g.record(left, 0), -1);
        }
        g.read(3, 99);
        c.dueRecord(g, 0, 1, 3, 0, 99);
        c.due("drop()", g.drop(), 0);
    }

    private static void dropWithoutOne() {
        c.sentence("NONE without one.");
        c.due("new: drop()", new DmaGate().drop(), -1);
        DmaGate with = Gates.busy(7, 9);
        DmaGate without = Gates.busy(7, 9);
        for (int k = 0; k < 6; k++) {
            with.drop();
            without.drop();
        }
        c.due("drop()", with.drop(), -1);
        c.due("drop() again", with.drop(), -1);
        c.due("nothing is told otherwise", Gates.told(with).equals(Gates.told(without)), true);
        c.due("nor later", Gates.toldLater(with).equals(Gates.toldLater(without)), true);
        with.clear();
        c.due("behind clear()", with.drop(), -1);
    }

    private static void clearEmpties() {
        c.sentence("THE LOG is empty and does not OVERFLOW: how many RECORDS it had.");
        for (int n = 0; n <= 8; n++) {
            DmaGate g = withRecords(n);
            c.due("clear() of " + n, g.clear(), n < 6 ? n : 6);
            c.due("count(1)", g.count(1), 0);
            c.due("count(2)", g.count(2), 0);
            c.due("record(0, 0)", g.record(0, 0), -1);
            c.due("count(5) stays", g.count(5), n);
        }
        DmaGate g = withRecords(7);
        g.clear();
        for (int k = 0; k < 6; k++) {
            g.write(2, k, 0);
            c.dueRecord(g, k, 1, 2, 1, k);
            c.due("count(2)", g.count(2), 0);
        }
        g.write(2, 6, 0);
        c.due("count(2)", g.count(2), 1);
    }

    private static void clearOfNone() {
        c.sentence("THE LOG is empty and does not OVERFLOW: how many RECORDS it had.", "it had none");
        c.due("new: clear()", new DmaGate().clear(), 0);
        DmaGate g = withRecords(7);
        for (int k = 0; k < 6; k++) {
            g.drop();
        }
        c.due("count(2)", g.count(2), 1);
        c.due("clear()", g.clear(), 0);
        c.due("count(2)", g.count(2), 0);
        c.due("clear() again", g.clear(), 0);
    }

    /** So many LEAVES of device 5, DOMAIN 15, the last of level 0 the highest PAGE NUMBER. */
    private static DmaGate withLeaves(int n) {
        DmaGate g = new DmaGate();
        g.context(5, false, 1, 15);
        g.enter(1, 15, 0, false, 2);
        g.enter(2, 15, 0, false, 3);
        for (int i = 0; i < 16; i++) {
            g.enter(3, i, i % 4, false, 48 + i);
        }
        for (int k = 0; k < n; k++) {
            g.read(5, 0xfff - k << 8);
        }
        return g;
    }

    private static void leafTells() {
        c.sentence("Of the i-th remembered LEAF, what 0: DOMAIN, 1: level, 2: the bits of v above, 3: PAGE, "
                + "4: rights (bit 0 READ, bit 1 WRITE).");
        DmaGate g = withLeaves(6);
        for (int i = 0; i < 6; i++) {
            c.dueLeaf(g, i, 15, 0, 0xfff - i, 63 - i, (15 - i) % 4);
        }
        g.context(0, false, 1, 0);
        g.enter(1, 0, 2, true, 0);
        g.read(0, 0);
        c.dueLeaf(g, 5, 0, 2, 0, 0, 2);
        c.dueLeaf(g, 0, 15, 0, 0xffe, 62, 2);
        g.enter(2, 0, 1, true, 48);
        g.read(0, 0xf0fff);
        c.dueLeaf(g, 5, 0, 1, 0xf0, 48, 1);
        g.enter(1, 15, 1, true, 48);
        g.read(0, 0xfffff);
        c.dueLeaf(g, 5, 0, 2, 0xf, 48, 1);
    }

    private static void leafNoneSuch() {
        c.sentence("NONE: none such, another what.", "leaf: none such");
        for (int n = 0; n <= 8; n++) {
            int kept = n < 6 ? n : 6;
            int[] no = {-1, kept, 6, 7, MIN, MAX};
            for (int i : no) {
                for (int what = 0; what < 5; what++) {
                    c.due("leaf(" + i + ", " + what + ") of " + kept, withLeaves(n).leaf(i, what), -1);
                }
            }
            c.due("the last", kept == 0 || withLeaves(n).leaf(kept - 1, 0) == 15, true);
        }
        DmaGate g = withLeaves(2);
        g.command(2, 15, 0xfff);
        g.obey(1);
        c.due("one was forgotten", g.leaf(1, 0), -1);
        c.due("the other", g.leaf(0, 2), 0xffe);
        int[] no = {-1, 6, MIN, MAX};
        for (int i : no) {
            Gates.refused(c, "leaf(" + i + ", 0)", x -> x.leaf(i, 0));
        }
    }

    private static void leafNoWhat() {
        c.sentence("NONE: none such, another what.", "leaf: another what");
        int[] no = {-1, 5, 6, MIN, MAX};
        for (int what : no) {
            for (int i = 0; i < 6; i++) {
                c.due("leaf(" + i + ", " + what + ")", withLeaves(6).leaf(i, what), -1);
            }
            Gates.refused(c, "leaf(0, " + what + ")", g -> g.leaf(0, what));
        }
    }
}
