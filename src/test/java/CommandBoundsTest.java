/** Each sentence of Terms 4 and of promises 16 to 18 (commands, counts) that names a boundary case. */
public final class CommandBoundsTest {
    private static final Check c = new Check();
    private static final int MIN = Integer.MIN_VALUE;
    private static final int MAX = Integer.MAX_VALUE;

    public static void main(String[] args) {
        atMostTwelve();
        allLeaves();
        leavesOfADomain();
        noSuchDomain();
        leavesForANumber();
        noSuchNumber();
        contextOfADevice();
        noSuchDevice();
        allContexts();
        wordOfMemory();
        beyondMemory();
        refusedCallsChangeNothing();
        comesBehindTheRow();
        anotherCommand();
        twelveWait();
        firstOnesAreDone();
        asManyAsWait();
        obeyBelowZero();
        commandsCounted();
        recordsCounted();
        overflowCounted();
        rememberedCounted();
        readsCounted();
        hitsCounted();
        placeCounted();
        anotherWhat();
        c.end("CommandBoundsTest");
    }

    private static void once(DmaGate g, int code, int a, int b) {
        g.command(code, a, b);
        c.due("obey(1)", g.obey(1), 1);
    }

    /**
     * Devices 0, 1, 2 of DOMAINS 0, 15, 7 are remembered; of each a LEAF of level 1 (above 0xff)
     * and one of level 0 (0xfef), in this order.
     */
    private static DmaGate withLeaves() {
        DmaGate g = new DmaGate();
        int[] domains = {0, 15, 7};
        g.enter(1, 15, 0, false, 2);
        g.enter(2, 15, 3, true, 32);
        g.enter(2, 14, 0, false, 3);
        g.enter(3, 15, 3, false, 40);
        for (int d = 0; d < 3; d++) {
            g.context(d, false, 1, domains[d]);
            g.read(d, 0xff000);
            g.read(d, 0xfef00);
        }
        leavesAre(g, 0, 1, 2, 3, 4, 5);
        c.due("count(3)", g.count(3), 3);
        return g;
    }

    /** Of the six LEAVES of withLeaves those that are left, by their first places. */
    private static void leavesAre(DmaGate g, int... left) {
        int[] domains = {0, 0, 15, 15, 7, 7};
        c.due("count(4)", g.count(4), left.length);
        for (int i = 0; i < left.length; i++) {
            boolean wide = left[i] % 2 == 0;
            c.dueLeaf(g, i, domains[left[i]], wide ? 1 : 0, wide ? 0xff : 0xfef, wide ? 32 : 40, 3);
        }
        c.due("leaf behind the last", g.leaf(left.length, 0), -1);
    }

    // ---- Terms 4

    private static void atMostTwelve() {
        c.sentence("COMMANDS wait in a row, at most 12");
        DmaGate g = new DmaGate();
        for (int k = 1; k <= 12; k++) {
            c.due("command", g.command(5, k, k), k);
        }
        c.due("a 13th", g.command(5, 13, 13), -1);
        c.due("count(0)", g.count(0), 12);
        c.due("obey(1)", g.obey(1), 1);
        c.due("room again", g.command(5, 14, 14), 12);
        c.due("and none", g.command(5, 15, 15), -1);
        c.due("obey(99)", g.obey(99), 12);
        for (int k = 1; k <= 15; k++) {
            c.due("peek(" + k + ")", g.peek(k), k == 13 || k == 15 ? 0 : k);
        }
    }

    private static void allLeaves() {
        c.sentence("0 all LEAVES are forgotten");
        DmaGate g = withLeaves();
        once(g, 0, 5, 5);
        leavesAre(g);
        c.due("count(3)", g.count(3), 3);
        once(g, 0, 5, 5);
        c.due("of none: count(4)", g.count(4), 0);
    }

    private static void leavesOfADomain() {
        c.sentence("1 LEAVES of a DOMAIN a");
        DmaGate g = withLeaves();
        once(g, 1, 15, 0);
        leavesAre(g, 0, 1, 4, 5);
        once(g, 1, 15, 0);
        leavesAre(g, 0, 1, 4, 5);
        once(g, 1, 0, 0);
        leavesAre(g, 4, 5);
        once(g, 1, 7, 0);
        leavesAre(g);
        c.due("count(3)", g.count(3), 3);
    }

    private static void noSuchDomain() {
        c.sentence("1 LEAVES of a DOMAIN a", "no such DOMAIN, or none of it");
        DmaGate g = withLeaves();
        int[] none = {-1, 1, 14, 16, 23, 31, MIN, MAX};
        for (int a : none) {
            once(g, 1, a, 0xff0);
            leavesAre(g, 0, 1, 2, 3, 4, 5);
        }
    }

    private static void leavesForANumber() {
        c.sentence("2 of a DOMAIN a those for PAGE NUMBER b (of any level)");
        DmaGate g = withLeaves();
        int[] beside = {0, 0xfee, 0xfe0, 0xf00, 0xf, 0xef};
        for (int b : beside) {
            once(g, 2, 15, b);
            leavesAre(g, 0, 1, 2, 3, 4, 5);
        }
        once(g, 2, 15, 0xfef);
        leavesAre(g, 0, 1, 2, 4, 5);
        once(g, 2, 15, 0xff0);
        leavesAre(g, 0, 1, 4, 5);
        once(g, 2, 0, 0xfff);
        leavesAre(g, 1, 4, 5);
        once(g, 2, 1, 0xfef);
        leavesAre(g, 1, 4, 5);
        g.enter(1, 15, 3, true, 48);
        g.read(2, 0xf0000);
        c.dueLeaf(g, 3, 7, 2, 15, 48, 3);
        once(g, 2, 7, 0xeff);
        c.due("none is for it: count(4)", g.count(4), 4);
        once(g, 2, 7, 0xf10);
        c.due("level 2 is for it: count(4)", g.count(4), 3);
        g.read(2, 0xf0000);
        once(g, 2, 7, 0xff7);
        c.due("levels 1 and 2 are for it: count(4)", g.count(4), 2);
        c.dueLeaf(g, 0, 0, 0, 0xfef, 40, 3);
        c.dueLeaf(g, 1, 7, 0, 0xfef, 40, 3);
    }

    private static void noSuchNumber() {
        c.sentence("2 of a DOMAIN a those for PAGE NUMBER b (of any level)", "no such DOMAIN or PAGE NUMBER");
        DmaGate g = withLeaves();
        int[] numbers = {-1, 0x1000, 0x1fef, 0x1fff, 0xfffffff0, MIN, MAX};
        int[] domains = {0, 15, 7};
        for (int b : numbers) {
            for (int a : domains) {
                once(g, 2, a, b);
            }
            leavesAre(g, 0, 1, 2, 3, 4, 5);
        }
        int[] noDomain = {-1, 16, 31, MIN, MAX};
        for (int a : noDomain) {
            once(g, 2, a, 0xfef);
            once(g, 2, a, 0xfff);
            leavesAre(g, 0, 1, 2, 3, 4, 5);
        }
    }

    /** Bit d: device d is led by what is remembered. */
    private static int remembered(DmaGate g) {
        g.fill(0, 16, 0, 0);
        int bits = 0;
        for (int d = 0; d < 8; d++) {
            g.read(d, 0xff000);
            bits |= g.fault() == 1 ? 0 : 1 << d;
        }
        return bits;
    }

    private static void contextOfADevice() {
        c.sentence("3 the CONTEXT of a device a");
        int[] left = {6, 5, 3};
        for (int d = 0; d < 3; d++) {
            DmaGate g = withLeaves();
            once(g, 3, d, 1);
            c.due("count(3)", g.count(3), 2);
            leavesAre(g, 0, 1, 2, 3, 4, 5);
            once(g, 3, d, 1);
            c.due("of none: count(3)", g.count(3), 2);
            c.due("which are left", remembered(g), left[d]);
        }
        DmaGate h = new DmaGate();
        h.context(7, true, 0, 0);
        h.read(7, 0);
        once(h, 3, 7, 0);
        c.due("device 7: count(3)", h.count(3), 0);
    }

    private static void noSuchDevice() {
        c.sentence("3 the CONTEXT of a device a", "no such device, or it is not remembered");
        DmaGate g = withLeaves();
        int[] none = {-1, 3, 7, 8, 16, MIN, MAX};
        for (int a : none) {
            once(g, 3, a, 0);
            c.due("count(3)", g.count(3), 3);
        }
        c.due("which are left", remembered(g), 7);
    }

    private static void allContexts() {
        c.sentence("4 all CONTEXTS");
        DmaGate g = withLeaves();
        once(g, 4, 1, 1);
        c.due("count(3)", g.count(3), 0);
        leavesAre(g, 0, 1, 2, 3, 4, 5);
        once(g, 4, 1, 1);
        c.due("of none: count(3)", g.count(3), 0);
        c.due("which are left", remembered(g), 0);
    }

    private static void wordOfMemory() {
        c.sentence("5 word a of MEMORY becomes b (place a; beyond: nothing).", "places");
        DmaGate g = new DmaGate();
        int[] words = {MIN, MAX, -1, 0};
        for (int word : words) {
            once(g, 5, 0, word);
            once(g, 5, 16383, word);
            c.due("peek(0)", g.peek(0), word);
            c.due("peek(16383)", g.peek(16383), word);
        }
        c.due("peek(1)", g.peek(1), 0);
        c.due("peek(16382)", g.peek(16382), 0);
    }

    private static void beyondMemory() {
        c.sentence("5 word a of MEMORY becomes b (place a; beyond: nothing).", "beyond");
        int[] beyond = {-1, 16384, 1 << 20, MIN, MAX};
        for (int a : beyond) {
            DmaGate with = Gates.busy(0, 3);
            DmaGate without = Gates.busy(0, 3);
            c.due("command(5, " + a + ", 9)", with.command(5, a, 9), 1);
            c.due("it is done: obey(1)", with.obey(1), 1);
            c.due("nothing is told otherwise", Gates.told(with).equals(Gates.told(without)), true);
            c.due("nor later", Gates.toldLater(with).equals(Gates.toldLater(without)), true);
        }
    }

    private static void refusedCallsChangeNothing() {
        c.sentence("Refused calls answer NONE, or false, and change nothing.");
        Gates.Call all = g -> {
            int[] none = {
                g.fill(-1, 1, 9, 9), g.fill(0, 257, 9, 9), g.tail(8, 0), g.tail(0, 4), g.step(8, 1),
                g.step(0, 1001), g.resume(8), g.resume(0), g.engine(8, 0), g.engine(0, 5),
                g.command(6, 0, 0), g.obey(-1), g.count(8), g.record(6, 0), g.record(0, 4),
                g.leaf(6, 0), g.leaf(0, 5),
            };
            boolean[] no = {
                g.table(8), g.table(16384), g.context(8, true, 0, 0), g.context(0, true, 64, 0),
                g.context(0, true, 0, 16), g.enter(64, 0, 0, false, 0), g.enter(1, 16, 0, false, 0),
                g.enter(1, 0, 4, false, 0), g.ring(8, 0, 1), g.ring(0, 2, 1), g.ring(0, 1 << 20, 1),
                g.ring(0, 0, 0), g.ring(0, 0, 65),
            };
            int refused = 0;
            for (int answer : none) {
                refused += answer == DmaGate.NONE ? 1 : 0;
            }
            for (boolean answer : no) {
                refused += answer ? 0 : 1;
            }
            return refused;
        };
        Gates.changesNothing(c, "all kinds of refused calls", all, 17 + 13);
    }

    // ---- promise 16

    private static void comesBehindTheRow() {
        c.sentence("A COMMAND comes behind the row: how many wait.");
        DmaGate g = new DmaGate();
        for (int k = 1; k <= 12; k++) {
            c.due("command", g.command(k % 6, MIN + k, MAX - k), k);
            c.due("count(0)", g.count(0), k);
        }
        c.due("obey(12)", g.obey(12), 12);
        c.due("the first of a new row", g.command(5, 3, 1), 1);
        c.due("the second", g.command(5, 3, 2), 2);
        c.due("obey(1)", g.obey(1), 1);
        c.due("peek(3)", g.peek(3), 1);
        c.due("behind the second", g.command(5, 3, 3), 2);
        c.due("obey(1)", g.obey(1), 1);
        c.due("peek(3)", g.peek(3), 2);
    }

    private static void anotherCommand() {
        c.sentence("Refused: another COMMAND than 0 .. 5");
        int[] no = {-1, 6, MIN, MAX};
        for (int code : no) {
            Gates.refused(c, "command(" + code + ", 0, 0)", g -> g.command(code, 0, 0));
            Gates.refused(c, "command(" + code + ", 100, 100)", g -> g.command(code, 100, 100));
        }
    }

    private static void twelveWait() {
        c.sentence("12 wait.");
        for (int code = 0; code < 6; code++) {
            DmaGate with = Gates.busy(12, 6);
            DmaGate without = Gates.busy(12, 6);
            c.due("command(" + code + ", 3, 5)", with.command(code, 3, 5), -1);
            c.due("nothing is told otherwise", Gates.told(with).equals(Gates.told(without)), true);
            c.due("nor later", Gates.toldLater(with).equals(Gates.toldLater(without)), true);
            DmaGate eleven = Gates.busy(11, 6);
            c.due("11 wait", eleven.command(code, 3, 5), 12);
        }
    }

    // ---- promise 17

    private static DmaGate withCommands(int n) {
        DmaGate g = new DmaGate();
        for (int k = 0; k < n; k++) {
            g.command(5, 100 + k, k + 1);
        }
        return g;
    }

    private static void doneAre(DmaGate g, int n) {
        for (int k = 0; k < 12; k++) {
            c.due("peek(" + (100 + k) + ")", g.peek(100 + k), k < n ? k + 1 : 0);
        }
    }

    private static void firstOnesAreDone() {
        c.sentence("The first n COMMANDS are done (as many as wait): how many.", "the first n");
        for (int n = 0; n <= 12; n++) {
            DmaGate g = withCommands(12);
            c.due("obey(" + n + ")", g.obey(n), n);
            c.due("count(0)", g.count(0), 12 - n);
            doneAre(g, n);
        }
    }

    private static void asManyAsWait() {
        c.sentence("The first n COMMANDS are done (as many as wait): how many.", "as many as wait");
        int[] many = {13, 1000, MAX};
        for (int n : many) {
            for (int waiting = 0; waiting <= 12; waiting++) {
                DmaGate g = withCommands(waiting);
                c.due("obey(" + n + ") of " + waiting, g.obey(n), waiting);
                c.due("count(0)", g.count(0), 0);
                doneAre(g, waiting);
                c.due("obey(" + n + ") of none", g.obey(n), 0);
            }
        }
    }

    private static void obeyBelowZero() {
        c.sentence("Refused: n below 0.");
        int[] no = {-1, -12, MIN};
        for (int n : no) {
            Gates.refused(c, "obey(" + n + ")", g -> g.obey(n));
        }
        Gates.changesNothing(c, "obey(0)", g -> g.obey(0), 0);
    }

    // ---- promise 18

    private static void commandsCounted() {
        c.sentence("What 0: COMMANDS that wait");
        for (int n = 0; n <= 13; n++) {
            c.due("count(0)", withCommands(n).count(0), n < 12 ? n : 12);
        }
    }

    private static void recordsCounted() {
        c.sentence("1: RECORDS");
        DmaGate g = new DmaGate();
        for (int n = 0; n <= 8; n++) {
            c.due("count(1)", g.count(1), n < 6 ? n : 6);
            g.read(0, n);
        }
        g.drop();
        c.due("count(1)", g.count(1), 5);
        g.clear();
        c.due("count(1)", g.count(1), 0);
    }

    private static void overflowCounted() {
        c.sentence("2: whether the LOG OVERFLOWS (1, 0)");
        DmaGate g = new DmaGate();
        for (int n = 0; n <= 8; n++) {
            c.due("count(2) behind " + n, g.count(2), n <= 6 ? 0 : 1);
            g.read(0, n);
        }
        g.clear();
        c.due("count(2) behind clear()", g.count(2), 0);
    }

    private static void rememberedCounted() {
        c.sentence("3: CONTEXTS, 4: LEAVES remembered");
        DmaGate g = new DmaGate();
        c.due("count(3)", g.count(3), 0);
        c.due("count(4)", g.count(4), 0);
        DmaGate h = withLeaves();
        c.due("count(3)", h.count(3), 3);
        c.due("count(4)", h.count(4), 6);
        h.context(3, false, 1, 3);
        h.read(3, 0xff000);
        c.due("count(3)", h.count(3), 3);
        c.due("count(4)", h.count(4), 6);
    }

    private static void readsCounted() {
        c.sentence("5: ENTRIES and CONTEXTS that were read in all");
        DmaGate g = new DmaGate();
        g.read(0, -1);
        c.due("an ADDRESS above 20 bits reads none", g.count(5), 0);
        g.read(0, 0);
        c.due("a CONTEXT that is not VALID", g.count(5), 1);
        g.context(0, false, 1, 0);
        g.read(0, 0);
        c.due("a CONTEXT, an ENTRY that is not VALID", g.count(5), 3);
        g.enter(1, 0, 0, true, 17);
        g.read(0, 0);
        c.due("a LEAF with FAULT 5", g.count(5), 4);
        g.enter(1, 0, 0, false, 2);
        g.read(0, 0);
        c.due("two ENTRIES", g.count(5), 6);
        g.enter(2, 0, 0, false, 3);
        g.read(0, 0);
        c.due("three ENTRIES", g.count(5), 9);
        g.enter(3, 0, 0, false, 4);
        g.read(0, 0);
        c.due("three ENTRIES, FAULT 3", g.count(5), 12);
        g.read(0, 0);
        c.due("none, all is remembered", g.count(5), 12);
        once(g, 4, 0, 0);
        g.read(0, 0);
        c.due("the CONTEXT alone", g.count(5), 13);
        once(g, 0, 0, 0);
        g.read(0, 0);
        c.due("the ENTRIES alone", g.count(5), 16);
        g.context(1, true, 0, 0);
        g.read(1, 1 << 19);
        g.read(1, 0);
        c.due("THROUGH: a CONTEXT alone", g.count(5), 17);
        g.clear();
        g.table(16);
        g.peek(256);
        c.due("in all", g.count(5), 17);
    }

    private static void hitsCounted() {
        c.sentence("6: accesses led by a remembered LEAF in all");
        DmaGate g = new DmaGate();
        g.context(0, false, 1, 0);
        g.context(1, true, 0, 0);
        g.enter(1, 0, 1, true, 16);
        g.read(0, 0);
        c.due("come to, not remembered before", g.count(6), 0);
        g.read(0, 0xffff);
        c.due("read", g.count(6), 1);
        g.write(0, 0, 0);
        c.due("fault()", g.fault(), 3);
        c.due("led, then refused by 3", g.count(6), 2);
        g.read(0, 0x10000);
        g.read(0, 1 << 20);
        g.read(1, 0);
        g.read(2, 0);
        c.due("not led by one", g.count(6), 2);
        g.ring(0, 0, 2);
        g.tail(0, 1);
        g.step(0, 1);
        c.due("four words of a descriptor", g.count(6), 6);
        once(g, 0, 0, 0);
        c.due("in all", g.count(6), 6);
    }

    private static void placeCounted() {
        c.sentence("7: THE CONTEXT TABLE's place.");
        DmaGate g = new DmaGate();
        c.due("count(7)", g.count(7), 0);
        g.table(16368);
        c.due("count(7)", g.count(7), 16368);
        g.table(16384);
        c.due("count(7)", g.count(7), 16368);
        g.table(0);
        c.due("count(7)", g.count(7), 0);
    }

    private static void anotherWhat() {
        c.sentence("NONE for another what.");
        int[] no = {-1, 8, MIN, MAX};
        for (int what : no) {
            Gates.refused(c, "count(" + what + ")", g -> g.count(what));
        }
    }
}
