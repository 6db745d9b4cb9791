/** Each sentence of Terms 3 and of promises 11 to 15 (engines) that names a boundary case. */
public final class EngineBoundsTest {
    private static final Check c = new Check();
    private static final int MIN = Integer.MIN_VALUE;
    private static final int MAX = Integer.MAX_VALUE;
    private static final int[] NO_DEVICE = {-1, 8, MIN, MAX};

    public static void main(String[] args) {
        terms();
        ringEnds();
        ringBeginsAnew();
        ringNoDevice();
        ringNoMultiple();
        ringNoAddress();
        ringNoNumber();
        tailEnds();
        tailOfEachState();
        tailNoDevice();
        tailNoPlace();
        stepNumbers();
        stepCountsTheStoppedOne();
        stepNoDevice();
        stepNoNumber();
        resumeGoesOn();
        resumeWithNothingLeft();
        resumeNoDevice();
        resumeNotStopped();
        engineTells();
        engineNoneAtHand();
        engineNoDevice();
        engineNoWhat();
        c.end("EngineBoundsTest");
    }

    private static void terms() {
        oneADevice();
        states();
        ringAtAMultipleOfFour();
        ringOfOne();
        ringOf64();
        countOfEightBits();
        noStep();
        fourWordsAreRead();
        copiesOneWord();
        wordOrOne();
        headGoesRound();
        doneIsOneMore();
        idleWhereHeadIsTail();
        sumsAreInts();
        faultOfADescriptor();
        faultOfASource();
        faultOfATarget();
        faultOfTheFourthWord();
        writtenStaysWritten();
    }

    /** Device 5 goes THROUGH, THE CONTEXT TABLE out of the way; a RING for it. */
    private static DmaGate withRing(int address, int n) {
        DmaGate g = new DmaGate();
        g.table(8192);
        for (int d = 0; d < 8; d++) {
            g.context(d, true, 0, 0);
        }
        g.ring(5, address, n);
        return g;
    }

    /** Engine 5 is stopped, HEAD 1 of 4, TAIL 3, one word of its descriptor copied. */
    private static DmaGate stopped() {
        DmaGate g = withRing(400, 4);
        Gates.descriptor(g, 404, 16383, 300, 2, 0);
        g.tail(5, 3);
        g.step(5, 9);
        c.dueEngine(g, 5, 2, 1, 3, 1, 1);
        return g;
    }

    // ---- Terms 3

    private static void oneADevice() {
        c.sentence("ENGINES, one a device");
        DmaGate g = withRing(400, 4);
        for (int d = 0; d < 8; d++) {
            c.due("ring", g.ring(d, 1000 + 100 * d, d + 2), true);
            c.due("tail", g.tail(d, d + 1), 1);
        }
        for (int d = 0; d < 8; d++) {
            c.due("step", g.step(d, d), d);
        }
        for (int d = 0; d < 8; d++) {
            c.dueEngine(g, d, 1, d / 2, d + 1, d / 2, d % 2 == 0 ? -1 : 0);
        }
    }

    private static void states() {
        c.sentence("a STATE: 0 idle (HEAD is TAIL), 1 at work, 2 stopped by a FAULT.");
        DmaGate g = withRing(400, 2);
        c.dueEngine(g, 5, 0, 0, 0, 0, -1);
        c.due("tail(5, 1)", g.tail(5, 1), 1);
        c.dueEngine(g, 5, 1, 0, 1, 0, -1);
        g.step(5, 1);
        c.dueEngine(g, 5, 1, 0, 1, 0, 0);
        g.step(5, 1);
        c.dueEngine(g, 5, 0, 1, 1, 1, -1);
        g.poke(404, 16384);
        g.poke(406, 1);
        g.tail(5, 0);
        g.step(5, 2);
        c.dueEngine(g, 5, 2, 1, 0, 1, 0);
        c.due("resume(5)", g.resume(5), 1);
        c.dueEngine(g, 5, 1, 1, 0, 1, -1);
    }

    private static void ringAtAMultipleOfFour() {
        c.sentence("a RING at an ADDRESS (a multiple of 4)");
        for (int address = 0; address <= 20; address++) {
            DmaGate g = withRing(400, 2);
            Gates.descriptor(g, address, 0, 0, 0, 6);
            c.due("ring(5, " + address + ", 2)", g.ring(5, address, 2), address % 4 == 0);
            g.tail(5, 1);
            g.step(5, 2);
            c.due("peek(" + (address + 3) + ")", g.peek(address + 3), address % 4 == 0 ? 7 : 6);
        }
    }

    private static void ringOfOne() {
        c.sentence("of n descriptors (1 .. 64), HEAD, TAIL (0 .. n - 1)", "a RING of one is never at work");
        DmaGate g = withRing(400, 1);
        c.due("tail(5, 0)", g.tail(5, 0), 0);
        c.due("tail(5, 1)", g.tail(5, 1), -1);
        c.due("step(5, 9)", g.step(5, 9), 0);
        c.dueEngine(g, 5, 0, 0, 0, 0, -1);
    }

    private static void ringOf64() {
        c.sentence("four words at the RING's ADDRESS and 4 * HEAD", "the first and the last of 64");
        DmaGate g = withRing(1000, 64);
        for (int k = 0; k < 64; k++) {
            Gates.descriptor(g, 1000 + 4 * k, 2000, 3000 + k, 1, 2 * k);
        }
        g.poke(2000, 9);
        c.due("tail(5, 63)", g.tail(5, 63), 1);
        c.due("step(5, 1000)", g.step(5, 1000), 63 * 3);
        c.dueEngine(g, 5, 0, 63, 63, 63, -1);
        c.due("the last is not done", g.peek(3063), 0);
        c.due("tail(5, 0)", g.tail(5, 0), 1);
        c.due("step(5, 1000)", g.step(5, 1000), 3);
        c.dueEngine(g, 5, 0, 0, 0, 64, -1);
        for (int k = 0; k < 64; k++) {
            c.due("target of descriptor " + k, g.peek(3000 + k), 9);
            c.due("word of descriptor " + k, g.peek(1003 + 4 * k), 2 * k + 1);
        }
        c.due("the word behind the RING", g.peek(1000 + 256 + 3), 0);
    }

    private static void countOfEightBits() {
        c.sentence("count (of its lowest 8 bits)");
        int[] words = {0, 1, 2, 255, 256, 257, 511, -1, -256, MIN, MAX, 0x12345600};
        int[] counts = {0, 1, 2, 255, 0, 1, 255, 255, 0, 0, 255, 0};
        for (int k = 0; k < words.length; k++) {
            DmaGate g = withRing(400, 2);
            Gates.descriptor(g, 400, 1000, 2000, words[k], 0);
            g.fill(1000, 256, 7, 0);
            g.fill(1256, 256, 7, 0);
            g.tail(5, 1);
            c.due("count word " + words[k] + ": step", g.step(5, 1000), counts[k] + 2);
            int copied = 0;
            for (int i = 1900; i < 3000; i++) {
                copied += g.peek(i);
            }
            c.due("words copied", copied, 7 * counts[k]);
        }
    }

    private static void noStep() {
        c.sentence("A STEP of an engine that is at work (idle or stopped: none)");
        DmaGate g = withRing(400, 4);
        g.read(5, -1);
        c.due("idle: step(5, 1)", g.step(5, 1), 0);
        c.due("idle: step(5, 1000)", g.step(5, 1000), 0);
        c.dueEngine(g, 5, 0, 0, 0, 0, -1);
        c.due("no access: fault()", g.fault(), 4);
        DmaGate h = stopped();
        h.read(5, 0);
        c.due("stopped: step(5, 1)", h.step(5, 1), 0);
        c.due("stopped: step(5, 1000)", h.step(5, 1000), 0);
        c.dueEngine(h, 5, 2, 1, 3, 1, 1);
        c.due("no access: fault()", h.fault(), 0);
        c.due("count(1)", h.count(1), 1);
    }

    private static void fourWordsAreRead() {
        c.sentence("if it has no descriptor at hand, its four words are read, in order");
        DmaGate g = new DmaGate();
        g.context(5, false, 1, 0);
        g.enter(1, 0, 3, true, 16);
        g.ring(5, 252, 2);
        Gates.descriptor(g, 16 * 256 + 252, 0x100, 0x200, 1, 0);
        g.tail(5, 1);
        c.due("step(5, 1)", g.step(5, 1), 1);
        c.due("the first comes to the LEAF, three are led by it", g.count(6), 3);
        c.dueEngine(g, 5, 1, 0, 1, 0, 0);
        DmaGate h = withRing(16384, 2);
        h.tail(5, 1);
        c.due("step(5, 1)", h.step(5, 1), 1);
        c.due("behind the first that is refused none is read", h.count(1), 1);
        c.dueRecord(h, 0, 4, 5, 0, 16384);
    }

    private static void copiesOneWord() {
        c.sentence("else, if count words were not copied so far, one more is read (source and what was copied) "
                + "and written (target likewise)");
        DmaGate g = withRing(400, 2);
        Gates.descriptor(g, 400, 16381, 0, 3, 0);
        g.fill(16381, 3, 50, 1);
        g.tail(5, 1);
        g.step(5, 1);
        for (int k = 0; k < 3; k++) {
            c.due("engine(5, 4)", g.engine(5, 4), k);
            c.due("step(5, 1)", g.step(5, 1), 1);
            c.due("peek(" + k + ")", g.peek(k), 50 + k);
            c.due("peek(" + (k + 1) + ")", g.peek(k + 1), 0);
        }
        c.due("engine(5, 4)", g.engine(5, 4), 3);
        c.due("step(5, 9)", g.step(5, 9), 1);
        c.due("peek(3)", g.peek(3), 0);
        DmaGate h = withRing(400, 2);
        Gates.descriptor(h, 400, 100, 101, 3, 0);
        h.poke(100, 8);
        h.tail(5, 1);
        h.step(5, 9);
        c.due("a word is read when its turn comes", h.peek(103), 8);
        c.due("peek(104)", h.peek(104), 0);
    }

    private static void wordOrOne() {
        c.sentence("else 1 and the fourth word's higher bits (word | 1) are written to its fourth word");
        int[] words = {0, 1, 2, 3, -1, -2, MIN, MAX, MAX - 1};
        for (int word : words) {
            DmaGate g = withRing(400, 2);
            Gates.descriptor(g, 400, 1, 2, 0, word);
            g.tail(5, 1);
            g.step(5, 1);
            c.due("not yet: peek(403)", g.peek(403), word);
            c.due("step(5, 1)", g.step(5, 1), 1);
            c.due("peek(403)", g.peek(403), word | 1);
            c.due("peek(400)", g.peek(400), 1);
            c.due("peek(401)", g.peek(401), 2);
            c.due("peek(402)", g.peek(402), 0);
            c.due("peek(404)", g.peek(404), 0);
        }
        DmaGate g = withRing(400, 2);
        Gates.descriptor(g, 400, 100, 403, 1, 6);
        g.poke(100, 96);
        g.tail(5, 1);
        c.due("step(5, 2)", g.step(5, 2), 2);
        c.due("it copies over its own fourth word: peek(403)", g.peek(403), 96);
        c.due("step(5, 1)", g.step(5, 1), 1);
        c.due("the fourth word is the one that was read", g.peek(403), 7);
    }

    private static void headGoesRound() {
        c.sentence("HEAD goes on by one (round)");
        int[] sizes = {2, 3, 64};
        for (int n : sizes) {
            DmaGate g = withRing(400, n);
            int head = 0;
            for (int k = 0; k < 2 * n; k++) {
                head = (head + 1) % n;
                c.due("tail", g.tail(5, head), 1);
                c.due("step", g.step(5, 2), 2);
                c.due("HEAD of a RING of " + n, g.engine(5, 1), head);
            }
        }
    }

    private static void doneIsOneMore() {
        c.sentence("it has none at hand, DONE is one more");
        DmaGate g = withRing(400, 2);
        for (int k = 1; k <= 5; k++) {
            g.tail(5, k % 2);
            c.due("step", g.step(5, 1), 1);
            c.dueEngine(g, 5, 1, (k - 1) % 2, k % 2, k - 1, 0);
            c.due("step", g.step(5, 1), 1);
            c.dueEngine(g, 5, 0, k % 2, k % 2, k, -1);
        }
    }

    private static void idleWhereHeadIsTail() {
        c.sentence("if HEAD is TAIL, it is idle");
        DmaGate g = withRing(400, 4);
        g.tail(5, 3);
        c.due("step(5, 2)", g.step(5, 2), 2);
        c.dueEngine(g, 5, 1, 1, 3, 1, -1);
        c.due("step(5, 2)", g.step(5, 2), 2);
        c.dueEngine(g, 5, 1, 2, 3, 2, -1);
        c.due("step(5, 1000)", g.step(5, 1000), 2);
        c.dueEngine(g, 5, 0, 3, 3, 3, -1);
        g.tail(5, 0);
        c.due("step(5, 1000)", g.step(5, 1000), 2);
        c.dueEngine(g, 5, 0, 0, 0, 4, -1);
    }

    private static void sumsAreInts() {
        c.sentence("(Sums of ADDRESSES as ints.)");
        DmaGate g = new DmaGate();
        g.context(5, false, 1, 0);
        g.enter(1, 0, 3, true, 0);
        g.enter(1, 15, 3, true, 0);
        g.ring(5, 400, 4);
        Gates.descriptor(g, 400, 0xfffff, 500, 2, 0);
        Gates.descriptor(g, 404, 500, 0xfffff, 2, 0);
        Gates.descriptor(g, 408, -1, 500, 2, 0);
        int[] steps = {3, 3, 2};
        int[] addresses = {1 << 20, 1 << 20, -1};
        for (int k = 0; k < 3; k++) {
            g.ring(5, 400 + 4 * k, 4);
            g.tail(5, 1);
            c.due("step(5, 9)", g.step(5, 9), steps[k]);
            c.dueRecord(g, k, 4, 5, k == 1 ? 1 : 0, addresses[k]);
        }
        g.ring(5, (1 << 20) - 4, 3);
        g.tail(5, 2);
        g.step(5, 900);
        c.due("HEAD 1 is above 20 bits, no ADDRESS 0", g.engine(5, 1), 1);
        c.dueRecord(g, 3, 4, 5, 0, 1 << 20);
        DmaGate h = withRing(400, 2);
        Gates.descriptor(h, 400, MAX, MIN, 255, 0);
        h.tail(5, 1);
        h.step(5, 9);
        c.dueRecord(h, 0, 4, 5, 0, MAX);
        h.poke(400, 0);
        h.resume(5);
        h.step(5, 9);
        c.dueRecord(h, 1, 4, 5, 1, MIN);
    }

    private static void faultOfADescriptor() {
        c.sentence("A FAULT of any access stops it as it is", "reading the descriptor");
        DmaGate g = withRing(16376, 4);
        g.tail(5, 3);
        c.due("two are done, the third lies beyond MEMORY", g.step(5, 9), 5);
        c.dueEngine(g, 5, 2, 2, 3, 2, -1);
        c.dueRecord(g, 0, 4, 5, 0, 16384);
        c.due("count(1)", g.count(1), 1);
        c.due("peek(16383)", g.peek(16383), 1);
    }

    private static void faultOfASource() {
        c.sentence("A FAULT of any access stops it as it is", "reading a word");
        DmaGate g = stopped();
        c.due("fault()", g.fault(), 4);
        c.dueRecord(g, 0, 4, 5, 0, 16384);
        c.due("count(1)", g.count(1), 1);
        c.due("peek(301)", g.peek(301), 0);
    }

    private static void faultOfATarget() {
        c.sentence("A FAULT of any access stops it as it is", "writing a word");
        DmaGate g = withRing(400, 4);
        Gates.descriptor(g, 400, 100, 16382, 255, 0);
        g.fill(100, 9, 5, 0);
        g.tail(5, 2);
        c.due("step(5, 1000)", g.step(5, 1000), 4);
        c.dueEngine(g, 5, 2, 0, 2, 0, 2);
        c.dueRecord(g, 0, 4, 5, 1, 16384);
        c.due("count(1)", g.count(1), 1);
    }

    private static void faultOfTheFourthWord() {
        c.sentence("A FAULT of any access stops it as it is", "writing the fourth word");
        DmaGate g = new DmaGate();
        g.context(5, false, 1, 0);
        g.enter(1, 0, 1, true, 16);
        g.enter(1, 1, 2, true, 32);
        g.ring(5, 8, 4);
        Gates.descriptor(g, 16 * 256 + 8, 3, 0x10003, 1, 6);
        g.poke(16 * 256 + 3, 77);
        g.tail(5, 1);
        c.due("step(5, 9)", g.step(5, 9), 3);
        c.dueEngine(g, 5, 2, 0, 1, 0, 1);
        c.dueRecord(g, 0, 3, 5, 1, 11);
        c.due("the fourth word", g.peek(16 * 256 + 11), 6);
        c.due("what was copied", g.peek(32 * 256 + 3), 77);
    }

    private static void writtenStaysWritten() {
        c.sentence("what was written stays written");
        DmaGate g = withRing(400, 4);
        Gates.descriptor(g, 400, 16374, 500, 255, 0);
        g.fill(16374, 10, 30, 1);
        g.tail(5, 1);
        c.due("step(5, 1000)", g.step(5, 1000), 12);
        c.due("engine(5, 0)", g.engine(5, 0), 2);
        for (int k = 0; k < 10; k++) {
            c.due("peek(" + (500 + k) + ")", g.peek(500 + k), 30 + k);
        }
        c.due("peek(510)", g.peek(510), 0);
        g.resume(5);
        c.due("peek(509) behind resume()", g.peek(509), 39);
    }

    // ---- promise 11

    private static void ringEnds() {
        c.sentence("A RING for device d");
        int[] devices = {0, 7};
        int[] addresses = {0, 4, (1 << 20) - 8, (1 << 20) - 4};
        int[] sizes = {1, 2, 63, 64};
        for (int d : devices) {
            for (int address : addresses) {
                for (int n : sizes) {
                    DmaGate g = new DmaGate();
                    c.due("ring(" + d + ", " + address + ", " + n + ")", g.ring(d, address, n), true);
                    c.due("tail: n - 1", g.tail(d, n - 1), n == 1 ? 0 : 1);
                    c.due("tail: n", g.tail(d, n), -1);
                    g.step(d, 1);
                    c.due("the first word's ADDRESS", g.record(0, 3), n == 1 ? -1 : address);
                }
            }
        }
    }

    private static void ringBeginsAnew() {
        c.sentence("HEAD and TAIL are 0, the engine idle, nothing at hand: true.");
        DmaGate idle = withRing(400, 4);
        idle.tail(5, 2);
        idle.step(5, 9);
        c.dueEngine(idle, 5, 0, 2, 2, 2, -1);
        c.due("ring of an idle one", idle.ring(5, 800, 4), true);
        c.dueEngine(idle, 5, 0, 0, 0, 2, -1);
        DmaGate work = withRing(400, 4);
        Gates.descriptor(work, 404, 100, 200, 5, 0);
        work.tail(5, 3);
        work.step(5, 4);
        c.dueEngine(work, 5, 1, 1, 3, 1, 1);
        c.due("ring of one at work", work.ring(5, 800, 4), true);
        c.dueEngine(work, 5, 0, 0, 0, 1, -1);
        work.tail(5, 1);
        c.due("the new descriptor is read", work.step(5, 9), 2);
        c.due("peek(803)", work.peek(803), 1);
        DmaGate g = stopped();
        c.due("ring of a stopped one", g.ring(5, 800, 4), true);
        c.dueEngine(g, 5, 0, 0, 0, 1, -1);
        c.due("resume(5)", g.resume(5), -1);
        c.due("tail(5, 1)", g.tail(5, 1), 1);
    }

    private static void ringNoDevice() {
        c.sentence("Refused: no such device, an ADDRESS", "ring: no such device");
        for (int d : NO_DEVICE) {
            Gates.refusedFalse(c, "ring(" + d + ", 0, 1)", g -> Gates.bit(g.ring(d, 0, 1)));
        }
    }

    private static void ringNoMultiple() {
        c.sentence("an ADDRESS that is no multiple of 4");
        int[] no = {1, 2, 3, 5, 402, (1 << 20) - 7, (1 << 20) - 6, (1 << 20) - 5};
        for (int address : no) {
            for (int d = 0; d < 3; d++) {
                int device = d;
                Gates.refusedFalse(c, "ring(" + d + ", " + address + ", 1)",
                        g -> Gates.bit(g.ring(device, address, 1)));
            }
        }
    }

    private static void ringNoAddress() {
        c.sentence("or not 0 .. 2^20 - 4");
        int[] no = {-4, -1, MIN, (1 << 20) - 3, (1 << 20) - 1, 1 << 20, (1 << 20) + 4, MAX - 3, MAX};
        for (int address : no) {
            for (int d = 0; d < 3; d++) {
                int device = d;
                Gates.refusedFalse(c, "ring(" + d + ", " + address + ", 1)",
                        g -> Gates.bit(g.ring(device, address, 1)));
            }
        }
    }

    private static void ringNoNumber() {
        c.sentence("n not 1 .. 64");
        int[] no = {0, -1, 65, MIN, MAX};
        for (int n : no) {
            for (int d = 0; d < 3; d++) {
                int device = d;
                Gates.refusedFalse(c, "ring(" + d + ", 0, " + n + ")",
                        g -> Gates.bit(g.ring(device, 0, n)));
            }
        }
    }

    // ---- promise 12

    private static void tailEnds() {
        c.sentence("TAIL becomes t");
        int[] sizes = {1, 2, 64};
        for (int n : sizes) {
            for (int t = 0; t < n; t++) {
                DmaGate g = withRing(400, n);
                c.due("tail(5, " + t + ")", g.tail(5, t), t == 0 ? 0 : 1);
                c.dueEngine(g, 5, t == 0 ? 0 : 1, 0, t, 0, -1);
            }
        }
    }

    private static void tailOfEachState() {
        c.sentence("if it is idle and TAIL is not HEAD, it is at work: its STATE.");
        DmaGate idle = withRing(400, 4);
        c.due("idle, TAIL is HEAD", idle.tail(5, 0), 0);
        c.due("idle, TAIL is not HEAD", idle.tail(5, 3), 1);
        c.due("at work, TAIL is not HEAD", idle.tail(5, 1), 1);
        c.due("at work, TAIL is HEAD", idle.tail(5, 0), 1);
        c.dueEngine(idle, 5, 1, 0, 0, 0, -1);
        c.due("it is idle where HEAD comes to TAIL, once round", idle.step(5, 1000), 8);
        c.dueEngine(idle, 5, 0, 0, 0, 4, -1);
        DmaGate g = stopped();
        for (int t = 0; t < 4; t++) {
            c.due("stopped: tail(5, " + t + ")", g.tail(5, t), 2);
            c.dueEngine(g, 5, 2, 1, t, 1, 1);
        }
    }

    private static void tailNoDevice() {
        c.sentence("Refused: no such device, t", "tail: no such device");
        for (int d : NO_DEVICE) {
            Gates.refused(c, "tail(" + d + ", 0)", g -> g.tail(d, 0));
        }
    }

    private static void tailNoPlace() {
        c.sentence("t not 0 .. n - 1");
        int[] devices = {0, 1, 2, 3};
        int[] sizes = {4, 3, 64, 1};
        for (int k = 0; k < 4; k++) {
            int d = devices[k];
            int[] no = {-1, sizes[k], MIN, MAX};
            for (int t : no) {
                Gates.refused(c, "tail(" + d + ", " + t + ")", g -> g.tail(d, t));
            }
        }
    }

    // ---- promise 13

    private static void stepNumbers() {
        c.sentence("So many STEPS (0 .. 1000) of device d");
        DmaGate g = withRing(400, 64);
        for (int k = 0; k < 5; k++) {
            Gates.descriptor(g, 400 + 4 * k, 1000, 2000, 255, 0);
        }
        g.tail(5, 5);
        c.due("step(5, 0)", g.step(5, 0), 0);
        c.dueEngine(g, 5, 1, 0, 5, 0, -1);
        c.due("step(5, 1)", g.step(5, 1), 1);
        c.dueEngine(g, 5, 1, 0, 5, 0, 0);
        c.due("step(5, 1000)", g.step(5, 1000), 1000);
        c.dueEngine(g, 5, 1, 3, 5, 3, 1001 - 3 * 257 - 1);
        c.due("step(5, 283)", g.step(5, 283), 283);
        c.dueEngine(g, 5, 1, 4, 5, 4, 255);
        c.due("step(5, 1000)", g.step(5, 1000), 1);
        c.dueEngine(g, 5, 0, 5, 5, 5, -1);
    }

    private static void stepCountsTheStoppedOne() {
        c.sentence("how many were done (one that a FAULT stops, too)");
        DmaGate g = withRing(16384, 2);
        g.tail(5, 1);
        c.due("the first is stopped", g.step(5, 5), 1);
        c.due("none is done then", g.step(5, 5), 0);
        g.resume(5);
        c.due("step(5, 1)", g.step(5, 1), 1);
        g.resume(5);
        c.due("step(5, 0)", g.step(5, 0), 0);
        c.due("engine(5, 0)", g.engine(5, 0), 1);
        DmaGate h = withRing(400, 2);
        Gates.descriptor(h, 400, 100, 16383, 9, 0);
        h.tail(5, 1);
        c.due("the descriptor, a word, the stopped one", h.step(5, 1000), 3);
    }

    private static void stepNoDevice() {
        c.sentence("Refused: no such device, another n.", "step: no such device");
        for (int d : NO_DEVICE) {
            Gates.refused(c, "step(" + d + ", 0)", g -> g.step(d, 0));
            Gates.refused(c, "step(" + d + ", 1)", g -> g.step(d, 1));
        }
    }

    private static void stepNoNumber() {
        c.sentence("Refused: no such device, another n.", "step: another n");
        int[] no = {-1, 1001, MIN, MAX};
        for (int n : no) {
            for (int d = 0; d < 3; d++) {
                int device = d;
                Gates.refused(c, "step(" + d + ", " + n + ")", g -> g.step(device, n));
            }
        }
    }

    // ---- promise 14

    private static void resumeGoesOn() {
        c.sentence("A stopped engine goes on: it has nothing at hand, HEAD stays: its STATE.");
        DmaGate g = stopped();
        c.due("resume(5)", g.resume(5), 1);
        c.dueEngine(g, 5, 1, 1, 3, 1, -1);
        c.due("the descriptor is read again, the FAULT comes again", g.step(5, 9), 3);
        c.dueEngine(g, 5, 2, 1, 3, 1, 1);
        c.due("resume(5)", g.resume(5), 1);
        g.poke(404, 100);
        c.due("step(5, 9)", g.step(5, 9), 6);
        c.dueEngine(g, 5, 0, 3, 3, 3, -1);
    }

    private static void resumeWithNothingLeft() {
        c.sentence("A stopped engine goes on: it has nothing at hand, HEAD stays: its STATE.", "HEAD is TAIL");
        DmaGate g = stopped();
        c.due("tail(5, 1)", g.tail(5, 1), 2);
        c.due("resume(5)", g.resume(5), 0);
        c.dueEngine(g, 5, 0, 1, 1, 1, -1);
        c.due("step(5, 9)", g.step(5, 9), 0);
        c.due("resume(5)", g.resume(5), -1);
    }

    private static void resumeNoDevice() {
        c.sentence("Refused: no such device, it is not stopped.", "resume: no such device");
        for (int d : NO_DEVICE) {
            Gates.refused(c, "resume(" + d + ")", g -> g.resume(d));
        }
    }

    private static void resumeNotStopped() {
        c.sentence("Refused: no such device, it is not stopped.", "resume: it is not stopped");
        int[] devices = {0, 2, 7};
        for (int d : devices) {
            Gates.refused(c, "resume(" + d + ")", g -> g.resume(d));
        }
        DmaGate g = stopped();
        c.due("resume(5)", g.resume(5), 1);
        c.due("resume(5) again", g.resume(5), -1);
        c.dueEngine(g, 5, 1, 1, 3, 1, -1);
    }

    // ---- promise 15

    private static void engineTells() {
        c.sentence("Of an engine, what 0: STATE, 1: HEAD, 2: TAIL, 3: DONE in all, "
                + "4: words of the descriptor at hand copied");
        DmaGate g = stopped();
        c.dueEngine(g, 5, 2, 1, 3, 1, 1);
        g.ring(5, 400, 2);
        g.poke(406, 0);
        g.tail(5, 1);
        g.step(5, 9);
        c.due("DONE in all, of both RINGS", g.engine(5, 3), 2);
    }

    private static void engineNoneAtHand() {
        c.sentence("(NONE without one)");
        DmaGate g = withRing(400, 3);
        c.due("idle", g.engine(5, 4), -1);
        g.tail(5, 2);
        c.due("at work", g.engine(5, 4), -1);
        g.step(5, 1);
        c.due("one at hand, nothing copied", g.engine(5, 4), 0);
        g.step(5, 1);
        c.due("finished", g.engine(5, 4), -1);
        g.ring(5, 16384, 3);
        g.tail(5, 2);
        g.step(5, 1);
        c.due("stopped while it was read", g.engine(5, 4), -1);
        DmaGate h = stopped();
        c.due("stopped with one", h.engine(5, 4), 1);
        h.resume(5);
        c.due("resumed", h.engine(5, 4), -1);
    }

    private static void engineNoDevice() {
        c.sentence("NONE: no such device, another what.", "engine: no such device");
        for (int d : NO_DEVICE) {
            for (int what = 0; what < 5; what++) {
                int w = what;
                Gates.refused(c, "engine(" + d + ", " + what + ")", g -> g.engine(d, w));
            }
        }
    }

    private static void engineNoWhat() {
        c.sentence("NONE: no such device, another what.", "engine: another what");
        int[] no = {-1, 5, MIN, MAX};
        for (int what : no) {
            for (int d = 0; d < 8; d++) {
                int device = d;
                Gates.refused(c, "engine(" + d + ", " + what + ")", g -> g.engine(device, what));
            }
        }
    }
}
