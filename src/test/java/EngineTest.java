/** Promises 11 to 15: ring, tail, step, resume, engine (Terms 3). */
public final class EngineTest {
    private static final Check c = new Check();

    public static void main(String[] args) {
        ringRefused();
        ringBeginsAnew();
        tail();
        tailAtWork();
        copies();
        firstPlaceIsAPlace();
        wordsAreReadWhenTheirTurnComes();
        countIsOfEightBits();
        wholeRingRound();
        stepRefused();
        faultInADescriptor();
        faultOfSource();
        faultOfTarget();
        faultOfTheLastWord();
        sumsAreInts();
        resume();
        resumeRefused();
        engineRefused();
        enginesAreApart();
        ledByTables();
        c.end("EngineTest");
    }

    private static DmaGate withRing(int d, int address, int n) {
        DmaGate g = new DmaGate();
        g.context(d, true, 0, 0);
        g.ring(d, address, n);
        return g;
    }

    private static void descriptor(DmaGate g, int place, int source, int target, int count, int word) {
        g.poke(place, source);
        g.poke(place + 1, target);
        g.poke(place + 2, count);
        g.poke(place + 3, word);
    }

    private static void ringRefused() {
        DmaGate g = withRing(3, 400, 4);
        g.tail(3, 2);
        int[] noDevice = {-1, 8, Integer.MIN_VALUE, Integer.MAX_VALUE};
        for (int d : noDevice) {
            c.due("ring(" + d + ", 0, 1)", g.ring(d, 0, 1), false);
        }
        int[] noAddress = {-4, -1, 1, 2, 3, 402, (1 << 20) - 3, (1 << 20) - 1, 1 << 20, Integer.MIN_VALUE, 0x7ffffffc};
        for (int a : noAddress) {
            c.due("ring(3, " + a + ", 1)", g.ring(3, a, 1), false);
        }
        int[] noSize = {-1, 0, 65, Integer.MIN_VALUE, Integer.MAX_VALUE};
        for (int n : noSize) {
            c.due("ring(3, 0, " + n + ")", g.ring(3, 0, n), false);
        }
        c.dueEngine(g, 3, 1, 0, 2, 0, -1);
        c.due("the RING's n stays", g.tail(3, 3), 1);
        c.due("ring(3, 2^20 - 4, 64)", g.ring(3, (1 << 20) - 4, 64), true);
        c.due("tail(3, 63)", g.tail(3, 63), 1);
        c.due("ring(3, 0, 1)", g.ring(3, 0, 1), true);
        c.due("tail(3, 1)", g.tail(3, 1), -1);
        c.due("ring(7, 4, 2)", g.ring(7, 4, 2), true);
        c.due("ring(0, 4, 2)", g.ring(0, 4, 2), true);
    }

    private static void ringBeginsAnew() {
        DmaGate g = withRing(2, 400, 4);
        descriptor(g, 400, 100, 200, 2, 0);
        descriptor(g, 404, 100, 210, 2, 0);
        g.tail(2, 3);
        c.due("step(2, 6)", g.step(2, 6), 6);
        c.dueEngine(g, 2, 1, 1, 3, 1, 1);
        c.due("ring(2, 800, 3)", g.ring(2, 800, 3), true);
        c.dueEngine(g, 2, 0, 0, 0, 1, -1);
        c.due("step(2, 5)", g.step(2, 5), 0);
        descriptor(g, 800, 100, 220, 0, 0);
        c.due("tail(2, 1)", g.tail(2, 1), 1);
        c.due("step(2, 5)", g.step(2, 5), 2);
        c.dueEngine(g, 2, 0, 1, 1, 2, -1);
        c.due("peek(803)", g.peek(803), 1);
        g.poke(804, 1 << 20);
        g.poke(806, 1);
        g.tail(2, 2);
        g.step(2, 5);
        c.dueEngine(g, 2, 2, 1, 2, 2, 0);
        c.due("ring() of a stopped one", g.ring(2, 400, 4), true);
        c.dueEngine(g, 2, 0, 0, 0, 2, -1);
    }

    private static void tail() {
        DmaGate g = withRing(2, 400, 4);
        int[] no = {-1, 4, Integer.MIN_VALUE, Integer.MAX_VALUE};
        for (int t : no) {
            c.due("tail(2, " + t + ")", g.tail(2, t), -1);
        }
        int[] noDevice = {-1, 8, Integer.MIN_VALUE, Integer.MAX_VALUE};
        for (int d : noDevice) {
            c.due("tail(" + d + ", 0)", g.tail(d, 0), -1);
        }
        c.dueEngine(g, 2, 0, 0, 0, 0, -1);
        c.due("tail(2, 0)", g.tail(2, 0), 0);
        c.due("tail(2, 3)", g.tail(2, 3), 1);
        c.dueEngine(g, 2, 1, 0, 3, 0, -1);
        c.due("tail(2, 2)", g.tail(2, 2), 1);
        c.dueEngine(g, 2, 1, 0, 2, 0, -1);
    }

    private static void tailAtWork() {
        DmaGate g = withRing(2, 400, 2);
        g.tail(2, 1);
        c.due("TAIL becomes HEAD, tail() ends no work", g.tail(2, 0), 1);
        c.due("it goes on till HEAD is TAIL", g.step(2, 100), 4);
        c.dueEngine(g, 2, 0, 0, 0, 2, -1);
    }

    private static void copies() {
        DmaGate g = withRing(2, 400, 4);
        descriptor(g, 400, 100, 200, 3, 0x70);
        g.fill(100, 4, 5, 1);
        g.tail(2, 1);
        c.due("step(2, 0)", g.step(2, 0), 0);
        c.dueEngine(g, 2, 1, 0, 1, 0, -1);
        for (int k = 0; k <= 3; k++) {
            c.due("step(2, 1)", g.step(2, 1), 1);
            c.dueEngine(g, 2, 1, 0, 1, 0, k);
            c.due("copied so far", g.peek(200 + k - 1), k == 0 ? 0 : 4 + k);
            c.due("not further", g.peek(200 + k), 0);
        }
        c.due("peek(403) before", g.peek(403), 0x70);
        c.due("step(2, 1)", g.step(2, 1), 1);
        c.dueEngine(g, 2, 0, 1, 1, 1, -1);
        c.due("peek(403)", g.peek(403), 0x71);
        c.due("peek(203)", g.peek(203), 0);
        c.due("peek(400) is as it was", g.peek(400), 100);
        c.due("step(2, 1000)", g.step(2, 1000), 0);
        c.due("fault()", g.fault(), 0);
    }

    private static void firstPlaceIsAPlace() {
        DmaGate g = new DmaGate();
        g.table(1024);
        g.context(2, true, 0, 0);
        g.ring(2, 0, 4);
        descriptor(g, 0, 0, 100, 1, 0);
        descriptor(g, 4, 101, 0, 1, 0);
        g.poke(101, 66);
        g.tail(2, 2);
        c.due("step(2, 9)", g.step(2, 9), 6);
        c.dueEngine(g, 2, 0, 2, 2, 2, -1);
        c.due("peek(0)", g.peek(0), 66);
        c.due("peek(3)", g.peek(3), 1);
        c.due("count(1)", g.count(1), 0);
    }

    private static void wordsAreReadWhenTheirTurnComes() {
        DmaGate g = withRing(2, 400, 4);
        descriptor(g, 400, 100, 101, 4, 6);
        g.poke(100, 9);
        g.tail(2, 1);
        g.step(2, 1);
        descriptor(g, 400, 0, 0, 0, 32);
        c.due("step(2, 9)", g.step(2, 9), 5);
        for (int i = 100; i < 105; i++) {
            c.due("peek(" + i + ")", g.peek(i), 9);
        }
        c.due("the word at hand, not that of now", g.peek(403), 7);
        c.due("peek(105)", g.peek(105), 0);
    }

    private static void countIsOfEightBits() {
        DmaGate g = withRing(2, 400, 4);
        descriptor(g, 400, 1000, 2000, 0x100, -2);
        descriptor(g, 404, 1000, 2000, 0xffffff02, -1);
        descriptor(g, 408, 1000, 2000, 255, 0);
        g.fill(1000, 256, 1, 1);
        g.tail(2, 1);
        c.due("count 256 is 0", g.step(2, 1000), 2);
        c.due("peek(403)", g.peek(403), -1);
        g.tail(2, 2);
        c.due("count of the lowest bits 2", g.step(2, 1000), 4);
        c.due("peek(407)", g.peek(407), -1);
        c.due("peek(2001)", g.peek(2001), 2);
        c.due("peek(2002)", g.peek(2002), 0);
        g.tail(2, 3);
        c.due("count 255", g.step(2, 1000), 257);
        c.due("peek(2254)", g.peek(2254), 255);
        c.due("peek(2255)", g.peek(2255), 0);
    }

    private static void wholeRingRound() {
        DmaGate g = withRing(2, 400, 3);
        g.tail(2, 2);
        c.due("step(2, 1000)", g.step(2, 1000), 4);
        c.dueEngine(g, 2, 0, 2, 2, 2, -1);
        c.due("tail(2, 1)", g.tail(2, 1), 1);
        c.due("step(2, 1000)", g.step(2, 1000), 4);
        c.dueEngine(g, 2, 0, 1, 1, 4, -1);
        c.due("peek(403)", g.peek(403), 1);
        c.due("peek(411)", g.peek(411), 1);
        c.due("peek(415)", g.peek(415), 0);
    }

    private static void stepRefused() {
        DmaGate g = withRing(2, 400, 4);
        g.tail(2, 3);
        int[] noDevice = {-1, 8, Integer.MIN_VALUE, Integer.MAX_VALUE};
        for (int d : noDevice) {
            c.due("step(" + d + ", 1)", g.step(d, 1), -1);
        }
        int[] no = {-1, 1001, Integer.MIN_VALUE, Integer.MAX_VALUE};
        for (int n : no) {
            c.due("step(2, " + n + ")", g.step(2, n), -1);
        }
        c.dueEngine(g, 2, 1, 0, 3, 0, -1);
        c.due("step(2, 1000)", g.step(2, 1000), 6);
    }

    private static void faultInADescriptor() {
        // A RING's ADDRESS is a multiple of 4, so of a descriptor only the first word can be refused.
        DmaGate g = withRing(2, 16384, 2);
        g.tail(2, 1);
        c.due("step(2, 9)", g.step(2, 9), 1);
        c.dueEngine(g, 2, 2, 0, 1, 0, -1);
        c.due("fault()", g.fault(), 4);
        c.due("one RECORD, the first word's", g.count(1), 1);
        c.dueRecord(g, 0, 4, 2, 0, 16384);
        c.due("step() of a stopped one", g.step(2, 9), 0);
        c.due("count(1)", g.count(1), 1);
    }

    private static void faultOfSource() {
        DmaGate g = withRing(2, 400, 4);
        descriptor(g, 400, 16382, 200, 5, 2);
        g.poke(16382, 8);
        g.poke(16383, 9);
        g.tail(2, 1);
        c.due("step(2, 50)", g.step(2, 50), 4);
        c.dueEngine(g, 2, 2, 0, 1, 0, 2);
        c.due("fault()", g.fault(), 4);
        c.dueRecord(g, 0, 4, 2, 0, 16384);
        c.due("what was written stays", g.peek(201), 9);
        c.due("peek(202)", g.peek(202), 0);
        c.due("peek(403)", g.peek(403), 2);
    }

    private static void faultOfTarget() {
        DmaGate g = withRing(2, 400, 4);
        descriptor(g, 400, 100, 16383, 5, 2);
        g.fill(100, 2, 8, 1);
        g.tail(2, 1);
        c.due("step(2, 50)", g.step(2, 50), 3);
        c.dueEngine(g, 2, 2, 0, 1, 0, 1);
        c.due("fault()", g.fault(), 4);
        c.dueRecord(g, 0, 4, 2, 1, 16384);
        c.due("count(1)", g.count(1), 1);
        c.due("what was written stays", g.peek(16383), 8);
        c.due("tail() of a stopped one", g.tail(2, 3), 2);
        c.dueEngine(g, 2, 2, 0, 3, 0, 1);
    }

    private static void faultOfTheLastWord() {
        DmaGate g = new DmaGate();
        g.context(2, false, 1, 0);
        g.enter(1, 0, 1, true, 16);
        g.ring(2, 0, 2);
        g.tail(2, 1);
        c.due("step(2, 9)", g.step(2, 9), 2);
        c.dueEngine(g, 2, 2, 0, 1, 0, 0);
        c.due("fault()", g.fault(), 3);
        c.dueRecord(g, 0, 3, 2, 1, 3);
        c.due("peek", g.peek(16 * 256 + 3), 0);
    }

    private static void sumsAreInts() {
        DmaGate g = withRing(2, 400, 4);
        descriptor(g, 400, Integer.MAX_VALUE, 200, 2, 0);
        descriptor(g, 404, -1, 200, 2, 0);
        g.tail(2, 2);
        g.step(2, 9);
        c.dueRecord(g, 0, 4, 2, 0, Integer.MAX_VALUE);
        g.ring(2, 404, 4);
        g.tail(2, 1);
        g.step(2, 9);
        c.dueRecord(g, 1, 4, 2, 0, -1);
        DmaGate h = withRing(2, (1 << 20) - 4, 3);
        h.context(2, false, 3, 0);
        h.enter(3, 15, 3, true, 16);
        h.tail(2, 2);
        c.due("the second descriptor is above 20 bits", h.step(2, 9), 3);
        c.due("fault()", h.fault(), 4);
        c.dueRecord(h, 0, 4, 2, 0, 1 << 20);
    }

    private static void resume() {
        DmaGate g = withRing(2, 400, 4);
        descriptor(g, 400, 16383, 200, 2, 2);
        g.poke(16383, 5);
        g.tail(2, 1);
        g.step(2, 9);
        c.dueEngine(g, 2, 2, 0, 1, 0, 1);
        c.due("resume(2)", g.resume(2), 1);
        c.dueEngine(g, 2, 1, 0, 1, 0, -1);
        c.due("fault() stays", g.fault(), 4);
        g.poke(400, 300);
        g.poke(301, 6);
        c.due("its descriptor is read again", g.step(2, 9), 4);
        c.dueEngine(g, 2, 0, 1, 1, 1, -1);
        c.due("copied from the first word on", g.peek(200), 0);
        c.due("peek(201)", g.peek(201), 6);
        g.poke(404, 1 << 20);
        g.poke(406, 1);
        g.tail(2, 2);
        g.step(2, 9);
        c.due("tail(2, 1)", g.tail(2, 1), 2);
        c.due("HEAD is TAIL: idle", g.resume(2), 0);
        c.dueEngine(g, 2, 0, 1, 1, 1, -1);
    }

    private static void resumeRefused() {
        DmaGate g = withRing(2, 400, 4);
        int[] noDevice = {-1, 8, Integer.MIN_VALUE, Integer.MAX_VALUE};
        for (int d : noDevice) {
            c.due("resume(" + d + ")", g.resume(d), -1);
        }
        c.due("resume of an idle one", g.resume(2), -1);
        g.tail(2, 2);
        g.step(2, 1);
        c.due("resume of one at work", g.resume(2), -1);
        c.dueEngine(g, 2, 1, 0, 2, 0, 0);
    }

    private static void engineRefused() {
        DmaGate g = new DmaGate();
        int[] no = {-1, 5, Integer.MIN_VALUE, Integer.MAX_VALUE};
        for (int what : no) {
            c.due("engine(0, " + what + ")", g.engine(0, what), -1);
        }
        int[] noDevice = {-1, 8, Integer.MIN_VALUE, Integer.MAX_VALUE};
        for (int d : noDevice) {
            for (int what = 0; what < 5; what++) {
                c.due("engine(" + d + ", " + what + ")", g.engine(d, what), -1);
            }
        }
    }

    private static void enginesAreApart() {
        DmaGate g = withRing(2, 400, 4);
        g.context(7, true, 0, 0);
        g.ring(7, 800, 8);
        g.tail(2, 3);
        g.tail(7, 7);
        g.step(2, 3);
        g.step(7, 6);
        c.dueEngine(g, 2, 1, 1, 3, 1, 0);
        c.dueEngine(g, 7, 1, 3, 7, 3, -1);
        c.dueEngine(g, 0, 0, 0, 0, 0, -1);
    }

    private static void ledByTables() {
        DmaGate g = new DmaGate();
        g.context(5, false, 1, 3);
        g.enter(1, 0, 0, false, 2);
        g.enter(2, 0, 0, false, 3);
        g.enter(3, 0, 3, false, 10);
        g.enter(3, 1, 1, false, 11);
        g.enter(3, 2, 2, false, 12);
        g.ring(5, 0x40, 2);
        descriptor(g, 10 * 256 + 0x40, 0x1fe, 0x210, 3, 4);
        g.poke(11 * 256 + 0xfe, 21);
        g.poke(11 * 256 + 0xff, 22);
        g.tail(5, 1);
        c.due("step(5, 9): the third source has no READ", g.step(5, 9), 4);
        c.due("fault()", g.fault(), 3);
        c.dueRecord(g, 0, 3, 5, 0, 0x200);
        c.due("peek", g.peek(12 * 256 + 0x10), 21);
        c.due("peek", g.peek(12 * 256 + 0x11), 22);
        c.due("peek", g.peek(12 * 256 + 0x12), 0);
        c.due("count(4)", g.count(4), 3);
        c.due("count(5)", g.count(5), 1 + 9);
        c.due("count(6): 3 of the descriptor, 1 source, 1 target, the refused one", g.count(6), 6);
    }
}
