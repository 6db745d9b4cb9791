/** Each sentence of promises 1 to 7 that names a boundary case; refused calls change nothing. */
public final class HostBoundsTest {
    private static final Check c = new Check();
    private static final int MIN = Integer.MIN_VALUE;
    private static final int MAX = Integer.MAX_VALUE;

    public static void main(String[] args) {
        busyIsBusy();
        asTold();
        enginesIdle();
        ringsOfOne();
        pokeEnds();
        pokeNoneSuch();
        peekEnds();
        peekNoneSuch();
        fillNone();
        fillMost();
        fillRound();
        fillThoseThatThereAre();
        fillRefusedPlace();
        fillRefusedNumber();
        tableEnds();
        tableNoMultiple();
        tableNotThere();
        tableRememberedStays();
        contextEnds();
        contextNoDevice();
        contextNoPage();
        contextNoDomain();
        enterEnds();
        enterNoPage();
        enterNoEntry();
        enterNoRights();
        c.end("HostBoundsTest");
    }

    /** What the gates of the refused calls hold, so that a change would show. */
    private static void busyIsBusy() {
        c.sentence("Refused calls answer NONE, or false, and change nothing.", "the gates that they are made on");
        DmaGate g = Gates.busy(7, 6);
        int[] want = {7, 6, 0, 3, 6, 3 + 15 + 5, 4 + 5, 48};
        for (int what = 0; what < want.length; what++) {
            c.due("count(" + what + ")", g.count(what), want[what]);
        }
        c.due("fault()", g.fault(), 1);
        c.dueEngine(g, 0, 1, 0, 2, 0, 2);
        c.dueEngine(g, 1, 2, 0, 2, 0, 0);
        c.dueEngine(g, 2, 0, 1, 1, 1, -1);
        DmaGate full = Gates.busy(12, 9);
        c.due("count(0)", full.count(0), 12);
        c.due("count(2)", full.count(2), 1);
        DmaGate few = Gates.busy(0, 3);
        c.due("count(0)", few.count(0), 0);
        c.due("count(1)", few.count(1), 3);
    }

    private static void asTold() {
        c.sentence("As told");
        DmaGate g = new DmaGate();
        int words = 0;
        for (int i = 0; i < 16384; i++) {
            words += g.peek(i) != 0 ? 1 : 0;
        }
        c.due("words that are not 0", words, 0);
        for (int what = 0; what < 8; what++) {
            c.due("count(" + what + ")", g.count(what), 0);
        }
        c.due("fault()", g.fault(), 0);
        c.due("record(0, 0)", g.record(0, 0), -1);
        c.due("leaf(0, 0)", g.leaf(0, 0), -1);
    }

    private static void enginesIdle() {
        c.sentence("engines idle");
        DmaGate g = new DmaGate();
        for (int d = 0; d < 8; d++) {
            c.dueEngine(g, d, 0, 0, 0, 0, -1);
            c.due("step", g.step(d, 1000), 0);
            c.due("resume", g.resume(d), -1);
        }
    }

    private static void ringsOfOne() {
        c.sentence("RINGS of one descriptor at ADDRESS 0");
        DmaGate g = new DmaGate();
        for (int d = 0; d < 8; d++) {
            c.due("tail(d, 0)", g.tail(d, 0), 0);
            c.due("tail(d, 1)", g.tail(d, 1), -1);
            c.due("tail(d, -1)", g.tail(d, -1), -1);
        }
    }

    private static void pokeEnds() {
        c.sentence("Word i of MEMORY becomes v: what it was.");
        DmaGate g = new DmaGate();
        int[] places = {0, 16383};
        for (int i : places) {
            int[] words = {0, MIN, MAX, -1, 1, 0};
            for (int k = 1; k < words.length; k++) {
                c.due("poke(" + i + ", " + words[k] + ")", g.poke(i, words[k]), words[k - 1]);
                c.due("peek(" + i + ")", g.peek(i), words[k]);
            }
        }
        c.due("peek(1)", g.peek(1), 0);
        c.due("peek(16382)", g.peek(16382), 0);
    }

    private static final int[] NO_PLACE = {-1, 16384, MIN, MAX};

    private static void pokeNoneSuch() {
        c.sentence("NoSuchElementException: none such.", "poke");
        for (int i : NO_PLACE) {
            Gates.changesNothing(c, "poke(" + i + ", 9)", g -> g.poke(i, 9), Gates.THROWN);
        }
    }

    private static void peekEnds() {
        c.sentence("Word i of MEMORY.");
        DmaGate g = new DmaGate();
        g.poke(0, MIN);
        g.poke(16383, MAX);
        c.due("peek(0)", g.peek(0), MIN);
        c.due("peek(16383)", g.peek(16383), MAX);
        c.due("peek(0) again", g.peek(0), MIN);
    }

    private static void peekNoneSuch() {
        c.sentence("NoSuchElementException: none such.", "peek");
        for (int i : NO_PLACE) {
            Gates.changesNothing(c, "peek(" + i + ")", g -> g.peek(i), Gates.THROWN);
        }
    }

    private static void fillNone() {
        c.sentence("Words i, i + 1 .. (n of them, 0 .. 256) become v, v + step, ..", "none of them");
        int[] places = {0, 2567, 16383};
        for (int i : places) {
            Gates.changesNothing(c, "fill(" + i + ", 0, 9, 9)", g -> g.fill(i, 0, 9, 9), 0);
        }
    }

    private static void fillMost() {
        c.sentence("Words i, i + 1 .. (n of them, 0 .. 256) become v, v + step, ..", "one, 256 of them");
        DmaGate g = new DmaGate();
        g.fill(0, 256, 3, 0);
        g.fill(256, 256, 3, 0);
        g.fill(512, 256, 3, 0);
        c.due("fill(255, 256, 10, -2)", g.fill(255, 256, 10, -2), 256);
        c.due("peek(254)", g.peek(254), 3);
        for (int k = 0; k < 256; k++) {
            c.due("peek(" + (255 + k) + ")", g.peek(255 + k), 10 - 2 * k);
        }
        c.due("peek(511)", g.peek(511), 3);
        c.due("fill(0, 1, 8, 5)", g.fill(0, 1, 8, 5), 1);
        c.due("peek(0)", g.peek(0), 8);
        c.due("peek(1)", g.peek(1), 3);
    }

    private static void fillRound() {
        c.sentence("Words i, i + 1 .. (n of them, 0 .. 256) become v, v + step, ..", "beyond an int");
        DmaGate g = new DmaGate();
        c.due("fill(0, 3, MAX, 1)", g.fill(0, 3, MAX, 1), 3);
        c.due("peek(0)", g.peek(0), MAX);
        c.due("peek(1)", g.peek(1), MIN);
        c.due("peek(2)", g.peek(2), MIN + 1);
        c.due("fill(0, 3, MIN, -1)", g.fill(0, 3, MIN, -1), 3);
        c.due("peek(1)", g.peek(1), MAX);
        c.due("fill(0, 4, 1, MIN)", g.fill(0, 4, 1, MIN), 4);
        c.due("peek(1)", g.peek(1), MIN + 1);
        c.due("peek(2)", g.peek(2), 1);
        c.due("fill(0, 256, 0, MAX)", g.fill(0, 256, 0, MAX), 256);
        c.due("peek(255)", g.peek(255), 255 * MAX);
    }

    private static void fillThoseThatThereAre() {
        c.sentence("how many did (those that there are)");
        int[] places = {16127, 16128, 16129, 16382, 16383, 16384, 16385, MAX - 255, MAX - 1, MAX};
        int[] there = {256, 256, 255, 2, 1, 0, 0, 0, 0, 0};
        for (int k = 0; k < places.length; k++) {
            DmaGate g = new DmaGate();
            c.due("fill(" + places[k] + ", 256, 1, 1)", g.fill(places[k], 256, 1, 1), there[k]);
            int filled = 0;
            for (int i = 0; i < 16384; i++) {
                filled += g.peek(i) != 0 ? 1 : 0;
            }
            c.due("words filled", filled, there[k]);
            for (int n = 0; n < there[k]; n++) {
                c.due("peek(" + (places[k] + n) + ")", g.peek(places[k] + n), n + 1);
            }
        }
        c.due("fill(MAX, 0, 1, 1)", new DmaGate().fill(MAX, 0, 1, 1), 0);
    }

    private static void fillRefusedPlace() {
        c.sentence("Refused: i below 0", "fill");
        int[] places = {-1, -256, MIN};
        int[] numbers = {0, 1, 256};
        for (int i : places) {
            for (int n : numbers) {
                Gates.refused(c, "fill(" + i + ", " + n + ", 9, 9)", g -> g.fill(i, n, 9, 9));
            }
        }
    }

    private static void fillRefusedNumber() {
        c.sentence("another n.", "fill");
        int[] places = {0, 16383, 16384, MAX};
        int[] numbers = {-1, 257, MIN, MAX};
        for (int i : places) {
            for (int n : numbers) {
                Gates.refused(c, "fill(" + i + ", " + n + ", 9, 9)", g -> g.fill(i, n, 9, 9));
            }
        }
    }

    private static void tableEnds() {
        c.sentence("THE CONTEXT TABLE is at a place: true.");
        for (int place = 0; place <= 16368; place += 16) {
            DmaGate g = new DmaGate();
            c.due("table(" + place + ")", g.table(place), true);
            c.due("count(7)", g.count(7), place);
        }
        DmaGate g = new DmaGate();
        g.table(16368);
        g.context(7, false, 1, 9);
        c.due("peek(16383)", g.peek(16383), 9);
        g.table(0);
        g.context(0, false, 1, 8);
        c.due("peek(1)", g.peek(1), 8);
    }

    private static void tableNoMultiple() {
        c.sentence("Refused: no multiple of 16");
        for (int k = 1; k < 16; k++) {
            int place = 64 + k;
            Gates.refusedFalse(c, "table(" + place + ")", g -> Gates.bit(g.table(place)));
        }
        int[] others = {1, 15, 16352 + 15, 16360};
        for (int place : others) {
            Gates.refusedFalse(c, "table(" + place + ")", g -> Gates.bit(g.table(place)));
        }
    }

    private static void tableNotThere() {
        c.sentence("not 0 .. 16368");
        int[] places = {-16, -1, 16369, 16383, 16384, 1 << 20, 0x7ffffff0, MIN, MAX};
        for (int place : places) {
            Gates.refusedFalse(c, "table(" + place + ")", g -> Gates.bit(g.table(place)));
        }
    }

    private static void tableRememberedStays() {
        c.sentence("(What is remembered stays.)");
        DmaGate g = Gates.busy(0, 3);
        int leaves = g.count(4);
        c.due("table(16368)", g.table(16368), true);
        c.due("count(3)", g.count(3), 3);
        c.due("count(4)", g.count(4), leaves);
        c.dueRead(g, 0, 0x110, 41, 0);
        c.dueRead(g, 1, 5000, 20000, 0);
        c.dueRead(g, 2, 0x40, 0x110, 0);
        c.due("a device that is not remembered", g.read(4, 0x110), 0);
        c.due("fault()", g.fault(), 1);
    }

    private static void contextEnds() {
        c.sentence("A CONTEXT is written for device d: VALID, THROUGH or not, ROOT, DOMAIN: true.");
        int[] devices = {0, 7};
        int[] roots = {0, 63};
        int[] domains = {0, 15};
        for (int d : devices) {
            for (int root : roots) {
                for (int domain : domains) {
                    for (int through = 0; through < 2; through++) {
                        DmaGate g = new DmaGate();
                        g.fill(0, 32, -1, 0);
                        c.due("context", g.context(d, through == 1, root, domain), true);
                        c.due("the first word", g.peek(2 * d), root * 256 + 2 * through + 1);
                        c.due("the second word", g.peek(2 * d + 1), domain);
                        c.due("the word behind", g.peek(2 * d + 2), -1);
                        c.due("the word before", d == 0 || g.peek(2 * d - 1) == -1, true);
                    }
                }
            }
        }
    }

    private static void contextNoDevice() {
        c.sentence("Refused: no such device", "context");
        int[] no = {-1, 8, MIN, MAX};
        for (int d : no) {
            Gates.refusedFalse(c, "context(" + d + ", true, 0, 0)", g -> Gates.bit(g.context(d, true, 0, 0)));
        }
    }

    private static void contextNoPage() {
        c.sentence("PAGE (0 .. 63)", "context");
        int[] no = {-1, 64, MIN, MAX};
        for (int root : no) {
            Gates.refusedFalse(c, "context(0, true, " + root + ", 0)",
                    g -> Gates.bit(g.context(0, true, root, 0)));
            Gates.refusedFalse(c, "context(7, false, " + root + ", 15)",
                    g -> Gates.bit(g.context(7, false, root, 15)));
        }
    }

    private static void contextNoDomain() {
        c.sentence("DOMAIN (0 .. 15)", "context");
        int[] no = {-1, 16, MIN, MAX};
        for (int domain : no) {
            Gates.refusedFalse(c, "context(0, true, 0, " + domain + ")",
                    g -> Gates.bit(g.context(0, true, 0, domain)));
            Gates.refusedFalse(c, "context(7, false, 63, " + domain + ")",
                    g -> Gates.bit(g.context(7, false, 63, domain)));
        }
    }

    private static void enterEnds() {
        c.sentence("ENTRY i (0 .. 15) of the TABLE in a PAGE is written: VALID, rights (bit 0 READ, bit 1 WRITE), "
                + "LEAF, PAGE: true.");
        int[] pages = {0, 63};
        int[] entries = {0, 15};
        for (int page : pages) {
            for (int i : entries) {
                for (int rights = 0; rights < 4; rights++) {
                    for (int leaf = 0; leaf < 2; leaf++) {
                        for (int to : pages) {
                            DmaGate g = new DmaGate();
                            g.fill(page * 256, 17, -1, 0);
                            c.due("enter", g.enter(page, i, rights, leaf == 1, to), true);
                            c.due("the ENTRY", g.peek(page * 256 + i), to * 256 + 8 * leaf + 2 * rights + 1);
                            c.due("the word behind", g.peek(page * 256 + i + 1), -1);
                            c.due("the word before", i == 0 || g.peek(page * 256 + i - 1) == -1, true);
                        }
                    }
                }
            }
        }
    }

    private static void enterNoPage() {
        c.sentence("Refused: no such PAGE", "enter");
        int[] no = {-1, 64, MIN, MAX};
        for (int page : no) {
            Gates.refusedFalse(c, "enter(" + page + ", 0, 0, false, 0)",
                    g -> Gates.bit(g.enter(page, 0, 0, false, 0)));
            Gates.refusedFalse(c, "enter(0, 0, 0, false, " + page + ")",
                    g -> Gates.bit(g.enter(0, 0, 0, false, page)));
            Gates.refusedFalse(c, "enter(63, 15, 3, true, " + page + ")",
                    g -> Gates.bit(g.enter(63, 15, 3, true, page)));
        }
    }

    private static void enterNoEntry() {
        c.sentence("Refused: no such PAGE, i", "enter: i");
        int[] no = {-1, 16, 255, MIN, MAX};
        for (int i : no) {
            Gates.refusedFalse(c, "enter(0, " + i + ", 0, false, 0)",
                    g -> Gates.bit(g.enter(0, i, 0, false, 0)));
            Gates.refusedFalse(c, "enter(63, " + i + ", 3, true, 63)",
                    g -> Gates.bit(g.enter(63, i, 3, true, 63)));
        }
    }

    private static void enterNoRights() {
        c.sentence("rights (0 .. 3)", "enter");
        int[] no = {-1, 4, MIN, MAX};
        for (int rights : no) {
            Gates.refusedFalse(c, "enter(0, 0, " + rights + ", false, 0)",
                    g -> Gates.bit(g.enter(0, 0, rights, false, 0)));
            Gates.refusedFalse(c, "enter(63, 15, " + rights + ", true, 63)",
                    g -> Gates.bit(g.enter(63, 15, rights, true, 63)));
        }
    }
}
