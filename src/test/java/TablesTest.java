/** Promises 5 to 7: table, context, enter. */
public final class TablesTest {
    private static final Check c = new Check();

    public static void main(String[] args) {
        table();
        rememberedStaysWhenTheTableMoves();
        context();
        contextRefused();
        enter();
        enterRefused();
        c.end("TablesTest");
    }

    private static void table() {
        DmaGate g = new DmaGate();
        c.due("table(16368)", g.table(16368), true);
        c.due("count(7)", g.count(7), 16368);
        int[] wrong = {-16, -1, 1, 8, 15, 16367, 16369, 16376, 16384, Integer.MIN_VALUE, 0x7ffffff0};
        for (int place : wrong) {
            c.due("table(" + place + ")", g.table(place), false);
            c.due("count(7)", g.count(7), 16368);
        }
        c.due("context(7, true, 0, 0)", g.context(7, true, 0, 0), true);
        c.due("peek(16382)", g.peek(16382), 3);
        g.poke(77, 770);
        c.due("read(7, 77)", g.read(7, 77), 770);
        c.due("table(0)", g.table(0), true);
        c.due("count(7)", g.count(7), 0);
        c.due("table(16)", g.table(16), true);
        c.due("count(7)", g.count(7), 16);
    }

    private static void rememberedStaysWhenTheTableMoves() {
        DmaGate g = new DmaGate();
        g.context(3, true, 0, 0);
        g.poke(50, 5);
        c.due("read(3, 50)", g.read(3, 50), 5);
        g.table(1024);
        c.due("count(3)", g.count(3), 1);
        c.due("read(3, 50), led by what is remembered", g.read(3, 50), 5);
        c.due("fault()", g.fault(), 0);
        c.due("read(4, 50)", g.read(4, 50), 0);
        c.due("fault()", g.fault(), 1);
        g.command(3, 3, 0);
        g.obey(1);
        c.due("read(3, 50), from the new table", g.read(3, 50), 0);
        c.due("fault()", g.fault(), 1);
    }

    private static void context() {
        DmaGate g = new DmaGate();
        g.fill(0, 32, -1, 0);
        c.due("context(0, false, 63, 15)", g.context(0, false, 63, 15), true);
        c.due("peek(0)", g.peek(0), 63 * 256 + 1);
        c.due("peek(1)", g.peek(1), 15);
        c.due("peek(2)", g.peek(2), -1);
        c.due("context(7, true, 5, 0)", g.context(7, true, 5, 0), true);
        c.due("peek(14)", g.peek(14), 5 * 256 + 3);
        c.due("peek(15)", g.peek(15), 0);
        c.due("peek(16)", g.peek(16), -1);
        c.due("peek(13)", g.peek(13), -1);
        g.table(256);
        c.due("context(1, false, 0, 9)", g.context(1, false, 0, 9), true);
        c.due("peek(258)", g.peek(258), 1);
        c.due("peek(259)", g.peek(259), 9);
        c.due("count(3): not read so far", g.count(3), 0);
        c.due("count(5)", g.count(5), 0);
    }

    private static void contextRefused() {
        DmaGate g = new DmaGate();
        int[] no = {-1, Integer.MIN_VALUE, Integer.MAX_VALUE};
        for (int x : no) {
            c.due("context: device " + x, g.context(x, false, 1, 1), false);
            c.due("context: PAGE " + x, g.context(1, false, x, 1), false);
            c.due("context: DOMAIN " + x, g.context(1, false, 1, x), false);
        }
        c.due("context: device 8", g.context(8, false, 1, 1), false);
        c.due("context: PAGE 64", g.context(1, false, 64, 1), false);
        c.due("context: DOMAIN 16", g.context(1, true, 1, 16), false);
        for (int i = 0; i < 20; i++) {
            c.due("nothing is written: peek(" + i + ")", g.peek(i), 0);
        }
    }

    private static void enter() {
        DmaGate g = new DmaGate();
        g.poke(63 * 256 + 15, -1);
        c.due("enter(63, 15, 3, true, 63)", g.enter(63, 15, 3, true, 63), true);
        c.due("peek", g.peek(63 * 256 + 15), 63 * 256 + 15);
        c.due("enter(0, 0, 0, false, 0)", g.enter(0, 0, 0, false, 0), true);
        c.due("peek(0)", g.peek(0), 1);
        c.due("enter(2, 3, 1, false, 4)", g.enter(2, 3, 1, false, 4), true);
        c.due("peek(515)", g.peek(515), 4 * 256 + 3);
        c.due("enter(2, 4, 2, true, 5)", g.enter(2, 4, 2, true, 5), true);
        c.due("peek(516)", g.peek(516), 5 * 256 + 13);
        c.due("count(4): not come to so far", g.count(4), 0);
        c.due("count(5)", g.count(5), 0);
    }

    private static void enterRefused() {
        DmaGate g = new DmaGate();
        int[] no = {-1, Integer.MIN_VALUE, Integer.MAX_VALUE, 64};
        for (int x : no) {
            c.due("enter: PAGE " + x, g.enter(x, 1, 1, false, 1), false);
            c.due("enter: i " + x, g.enter(1, x, 1, false, 1), false);
            c.due("enter: rights " + x, g.enter(1, 1, x, false, 1), false);
            c.due("enter: to " + x, g.enter(1, 1, 1, false, x), false);
        }
        c.due("enter: i 16", g.enter(1, 16, 1, false, 1), false);
        c.due("enter: rights 4", g.enter(1, 1, 4, true, 1), false);
        for (int i = 0; i < 16384; i++) {
            c.due("nothing is written: peek(" + i + ")", g.peek(i), 0);
        }
    }
}
