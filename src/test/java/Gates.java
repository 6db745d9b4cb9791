import java.util.ArrayList;
import java.util.List;
import java.util.NoSuchElementException;

/** Gates with something in every corner, and whether a refused call changes anything there. */
final class Gates {
    /** One call of the face, a boolean as 1 or 0. */
    interface Call {
        int on(DmaGate g);
    }

    static final int THROWN = 0x7e57;

    private Gates() {
    }

    static int bit(boolean b) {
        return b ? 1 : 0;
    }

    static void descriptor(DmaGate g, int place, int source, int target, int count, int word) {
        g.poke(place, source);
        g.poke(place + 1, target);
        g.poke(place + 2, count);
        g.poke(place + 3, word);
    }

    /**
     * CONTEXTS of devices 0, 1, 2 and six LEAVES are remembered; engine 0 is at work with a
     * descriptor at hand, 1 is stopped, 2 and the others are idle; so many COMMANDS wait, so many
     * accesses were refused (three at least).
     */
    static DmaGate busy(int waiting, int refused) {
        DmaGate g = new DmaGate();
        g.table(48);
        g.context(0, false, 1, 3);
        g.context(1, true, 0, 0);
        g.context(2, false, 1, 4);
        g.context(4, false, 1, 3);
        g.enter(1, 0, 0, false, 2);
        g.enter(1, 1, 1, true, 16);
        g.enter(2, 0, 0, false, 3);
        g.enter(2, 1, 3, true, 32);
        for (int i = 0; i < 8; i++) {
            g.enter(3, i, 3, false, 10 + i);
        }
        descriptor(g, 10 * 256 + 0x40, 0x110, 0x210, 5, 6);
        g.fill(11 * 256 + 0x10, 5, 41, 1);
        descriptor(g, 5000, 20000, 5100, 1, 0);
        engines(g);
        commands(g, waiting);
        for (int k = 1; k < refused; k++) {
            g.read(3, k);
        }
        return g;
    }

    private static void engines(DmaGate g) {
        g.ring(2, 0x80, 64);
        g.tail(2, 1);
        g.step(2, 2);
        g.ring(0, 0x40, 4);
        g.tail(0, 2);
        g.step(0, 3);
        g.read(0, 0x1000);
        g.read(0, 0x10000);
        g.ring(1, 5000, 3);
        g.tail(1, 2);
        g.step(1, 9);
    }

    private static void commands(DmaGate g, int waiting) {
        int[] code = {5, 2, 3, 1, 4, 0};
        int[] a = {100, 3, 0, 4, 0, 0};
        int[] b = {7, 0x1ff, 0, 0, 0, 0};
        for (int k = 0; k < waiting; k++) {
            g.command(code[k % 6], a[k % 6] + (k % 6 == 0 ? k : 0), b[k % 6]);
        }
    }

    /** All that the face tells without changing anything. */
    static List<Integer> told(DmaGate g) {
        List<Integer> all = new ArrayList<>();
        all.add(g.fault());
        for (int what = 0; what < 8; what++) {
            all.add(g.count(what));
        }
        for (int i = 0; i < 6; i++) {
            for (int what = 0; what < 5; what++) {
                all.add(g.leaf(i, what));
                all.add(g.record(i, what));
            }
        }
        for (int d = 0; d < 8; d++) {
            for (int what = 0; what < 5; what++) {
                all.add(g.engine(d, what));
            }
        }
        for (int i = 0; i < 16384; i++) {
            all.add(g.peek(i));
        }
        return all;
    }

    /** What shows only later: descriptors at hand, RINGS, CONTEXTS, the COMMANDS that wait. */
    static List<Integer> toldLater(DmaGate g) {
        List<Integer> all = new ArrayList<>();
        for (int d = 0; d < 8; d++) {
            all.add(g.step(d, 9));
            all.add(g.resume(d));
            all.add(g.step(d, 9));
        }
        all.addAll(told(g));
        for (int d = 0; d < 8; d++) {
            for (int t = 63; t >= 0; t--) {
                all.add(g.tail(d, t));
            }
            all.add(g.tail(d, 1));
            all.add(g.step(d, 9));
            for (int v = 0; v < 0x20; v++) {
                all.add(g.read(d, v << 8));
                all.add(g.fault());
            }
        }
        all.addAll(told(g));
        for (int k = 0; k < 12; k++) {
            all.add(g.obey(1));
            all.add(g.count(3));
            all.add(g.count(4));
            all.add(g.peek(100 + k));
        }
        all.addAll(told(g));
        return all;
    }

    private static int answer(DmaGate g, Call call) {
        try {
            return call.on(g);
        } catch (NoSuchElementException e) {
            return THROWN;
        }
    }

    /** The call answers what is due, and all is then as on a gate where it was not made. */
    static void changesNothing(Check c, String name, Call call, int want) {
        int[] waiting = {0, 7, 12};
        int[] refused = {3, 6, 9};
        for (int k = 0; k < waiting.length; k++) {
            DmaGate with = busy(waiting[k], refused[k]);
            DmaGate without = busy(waiting[k], refused[k]);
            c.due(name, answer(with, call), want);
            c.due(name + " leaves what is told", told(with).equals(told(without)), true);
            c.due(name + " leaves what is told later", toldLater(with).equals(toldLater(without)), true);
        }
    }

    static void refused(Check c, String name, Call call) {
        changesNothing(c, name, call, DmaGate.NONE);
    }

    static void refusedFalse(Check c, String name, Call call) {
        changesNothing(c, name, call, 0);
    }
}
