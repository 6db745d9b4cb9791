/** Promises 1 to 4: a new object, poke, peek, fill. */
public final class MemoryTest {
    private static final Check c = new Check();

    public static void main(String[] args) {
        newObject();
        newEngines();
        pokeAndPeek();
        fill();
        fillAtTheEnd();
        fillRefused();
        objectsAreApart();
        c.end("MemoryTest");
    }

    private static void newObject() {
        DmaGate g = new DmaGate();
        for (int i = 0; i < 16384; i++) {
            c.due("new: peek(" + i + ")", g.peek(i), 0);
        }
        for (int what = 0; what <= 7; what++) {
            c.due("new: count(" + what + ")", g.count(what), 0);
        }
        c.due("new: fault()", g.fault(), 0);
        c.due("new: record(0, 0)", g.record(0, 0), -1);
        c.due("new: leaf(0, 0)", g.leaf(0, 0), -1);
        c.due("new: drop()", g.drop(), -1);
        c.due("new: clear()", g.clear(), 0);
        c.due("new: obey(5)", g.obey(5), 0);
    }

    private static void newEngines() {
        DmaGate g = new DmaGate();
        for (int d = 0; d < 8; d++) {
            c.dueEngine(g, d, 0, 0, 0, 0, -1);
            c.due("new: tail(d, 0)", g.tail(d, 0), 0);
            c.due("new: tail(d, 1), a RING of one", g.tail(d, 1), -1);
            c.due("new: step(d, 5)", g.step(d, 5), 0);
            c.due("new: resume(d)", g.resume(d), -1);
        }
    }

    private static void pokeAndPeek() {
        DmaGate g = new DmaGate();
        c.due("poke(0, 7)", g.poke(0, 7), 0);
        c.due("poke(0, -8)", g.poke(0, -8), 7);
        c.due("peek(0)", g.peek(0), -8);
        c.due("poke(16383, MIN)", g.poke(16383, Integer.MIN_VALUE), 0);
        c.due("peek(16383)", g.peek(16383), Integer.MIN_VALUE);
        c.due("peek(1)", g.peek(1), 0);
        c.due("peek(16382)", g.peek(16382), 0);
        int[] none = {-1, 16384, Integer.MIN_VALUE, Integer.MAX_VALUE};
        for (int i : none) {
            c.pokeThrows(g, i);
            c.peekThrows(g, i);
        }
        c.due("peek(0) after what was refused", g.peek(0), -8);
        c.due("peek(16383) after what was refused", g.peek(16383), Integer.MIN_VALUE);
    }

    private static void fill() {
        DmaGate g = new DmaGate();
        g.poke(9, 99);
        g.poke(13, 98);
        c.due("fill(10, 3, 5, -2)", g.fill(10, 3, 5, -2), 3);
        int[] want = {99, 5, 3, 1, 98};
        for (int k = 0; k < want.length; k++) {
            c.due("peek(" + (9 + k) + ")", g.peek(9 + k), want[k]);
        }
        c.due("fill(10, 0, 7, 7)", g.fill(10, 0, 7, 7), 0);
        c.due("peek(10) after none", g.peek(10), 5);
        c.due("fill(0, 256, 1, 1)", g.fill(0, 256, 1, 1), 256);
        c.due("peek(0)", g.peek(0), 1);
        c.due("peek(255)", g.peek(255), 256);
        c.due("peek(256)", g.peek(256), 0);
        c.due("fill(20, 3, MAX, 1)", g.fill(20, 3, Integer.MAX_VALUE, 1), 3);
        c.due("peek(22), round", g.peek(22), Integer.MIN_VALUE + 1);
        c.due("fill(30, 4, 6, 0)", g.fill(30, 4, 6, 0), 4);
        c.due("peek(33)", g.peek(33), 6);
    }

    private static void fillAtTheEnd() {
        DmaGate g = new DmaGate();
        c.due("fill(16383, 256, 4, 4)", g.fill(16383, 256, 4, 4), 1);
        c.due("peek(16383)", g.peek(16383), 4);
        c.due("fill(16382, 2, 8, 1)", g.fill(16382, 2, 8, 1), 2);
        c.due("peek(16383)", g.peek(16383), 9);
        c.due("fill(16384, 1, 1, 1)", g.fill(16384, 1, 1, 1), 0);
        c.due("fill(MAX, 256, 1, 1)", g.fill(Integer.MAX_VALUE, 256, 1, 1), 0);
        c.due("fill(MAX, 0, 1, 1)", g.fill(Integer.MAX_VALUE, 0, 1, 1), 0);
        c.due("peek(0)", g.peek(0), 0);
    }

    private static void fillRefused() {
        DmaGate g = new DmaGate();
        c.due("fill(-1, 1, 1, 1)", g.fill(-1, 1, 1, 1), -1);
        c.due("fill(-1, 0, 1, 1)", g.fill(-1, 0, 1, 1), -1);
        c.due("fill(MIN, 5, 1, 1)", g.fill(Integer.MIN_VALUE, 5, 1, 1), -1);
        c.due("fill(0, -1, 1, 1)", g.fill(0, -1, 1, 1), -1);
        c.due("fill(0, 257, 1, 1)", g.fill(0, 257, 1, 1), -1);
        c.due("fill(20000, 257, 1, 1)", g.fill(20000, 257, 1, 1), -1);
        c.due("peek(0)", g.peek(0), 0);
    }

    private static void objectsAreApart() {
        DmaGate g = new DmaGate();
        DmaGate h = new DmaGate();
        g.poke(5, 5);
        g.table(32);
        g.read(0, 0);
        g.command(0, 0, 0);
        c.due("another's peek(5)", h.peek(5), 0);
        c.due("another's count(7)", h.count(7), 0);
        c.due("another's count(1)", h.count(1), 0);
        c.due("another's count(0)", h.count(0), 0);
        c.due("another's fault()", h.fault(), 0);
    }
}
