import java.util.NoSuchElementException;

/** Each sentence of promises 8 to 10 (read, write, fault) that names a boundary case. */
public final class AccessBoundsTest {
    private static final Check c = new Check();
    private static final int[] NO_DEVICE = {-1, 8, Integer.MIN_VALUE, Integer.MAX_VALUE};

    public static void main(String[] args) {
        readByEachDevice();
        refusedReadIsZero();
        refusedReadIsLogged();
        readNoSuchDevice();
        writeByEachDevice();
        refusedWriteIsFalse();
        writeNoSuchDevice();
        faultOfANewGate();
        faultIsOfTheLatest();
        faultOfARefusedCall();
        faultOfTheLatestAccessOfAStep();
        faultOfAStepWithoutAccess();
        c.end("AccessBoundsTest");
    }

    /** Devices 0 and 7 go THROUGH, 1 is led to PAGE 16 without rights; 2 to 6 are not VALID. */
    private static DmaGate made() {
        DmaGate g = new DmaGate();
        g.table(1024);
        g.context(0, true, 0, 0);
        g.context(7, true, 0, 0);
        g.context(1, false, 1, 0);
        g.enter(1, 0, 0, true, 16);
        return g;
    }

    private static void readByEachDevice() {
        c.sentence("The word at an ADDRESS, by device d");
        DmaGate g = made();
        int[] words = {Integer.MIN_VALUE, -1, 0, Integer.MAX_VALUE};
        int[] places = {0, 16383};
        for (int word : words) {
            for (int place : places) {
                g.poke(place, word);
                c.dueRead(g, 0, place, word, 0);
                c.dueRead(g, 7, place, word, 0);
            }
        }
        c.due("count(1)", g.count(1), 0);
    }

    private static void refusedReadIsZero() {
        c.sentence("0 and a FAULT is logged, if it is refused (fault() tells).", "the answer");
        DmaGate g = made();
        g.fill(0, 256, 77, 0);
        g.fill(16 * 256, 256, 77, 0);
        c.dueRead(g, 2, 5, 0, 1);
        c.dueRead(g, 1, 0x10005, 0, 2);
        c.dueRead(g, 1, 5, 0, 3);
        c.dueRead(g, 0, 16384, 0, 4);
        g.enter(1, 2, 3, true, 17);
        c.dueRead(g, 1, 0x20005, 0, 5);
        c.dueRead(g, 0, 5, 77, 0);
    }

    private static void refusedReadIsLogged() {
        c.sentence("0 and a FAULT is logged, if it is refused (fault() tells).", "the RECORD");
        DmaGate g = made();
        g.read(0, 5);
        c.due("none for one that was led", g.count(1), 0);
        g.read(6, 5);
        g.read(1, 0xfffff);
        g.read(1, 7);
        g.read(7, 1 << 19);
        g.read(7, Integer.MIN_VALUE);
        c.due("count(1)", g.count(1), 5);
        c.dueRecord(g, 0, 1, 6, 0, 5);
        c.dueRecord(g, 1, 2, 1, 0, 0xfffff);
        c.dueRecord(g, 2, 3, 1, 0, 7);
        c.dueRecord(g, 3, 4, 7, 0, 1 << 19);
        c.dueRecord(g, 4, 4, 7, 0, Integer.MIN_VALUE);
    }

    private static int thrown(DmaGate g, int d, int address) {
        try {
            return g.read(d, address);
        } catch (NoSuchElementException e) {
            return Gates.THROWN;
        }
    }

    private static void readNoSuchDevice() {
        c.sentence("NoSuchElementException: no such device.");
        int[] addresses = {0, 5, 0xfffff, 1 << 20, -1};
        for (int d : NO_DEVICE) {
            for (int address : addresses) {
                DmaGate with = Gates.busy(7, 6);
                c.due("read(" + d + ", " + address + ")", thrown(with, d, address), Gates.THROWN);
                c.due("fault(): the latest read() had none", with.fault(), 0);
                elseAsWithout(with);
            }
        }
    }

    /** But for fault() all is as on a gate where no call was made for want of a device. */
    private static void elseAsWithout(DmaGate with) {
        DmaGate without = Gates.busy(7, 6);
        with.read(0, 0);
        without.read(0, 0);
        c.due("what is told stays", Gates.told(with).equals(Gates.told(without)), true);
        c.due("what is told later stays", Gates.toldLater(with).equals(Gates.toldLater(without)), true);
    }

    private static void writeByEachDevice() {
        c.sentence("The word becomes v: true");
        DmaGate g = made();
        int[] words = {Integer.MIN_VALUE, -1, 0, Integer.MAX_VALUE};
        int[] places = {0, 16383};
        for (int word : words) {
            for (int place : places) {
                c.dueWrite(g, 0, place, word, 0);
                c.due("peek(" + place + ")", g.peek(place), word);
                g.poke(place, 3);
                c.dueWrite(g, 7, place, word, 0);
                c.due("peek(" + place + ")", g.peek(place), word);
            }
        }
        c.due("count(1)", g.count(1), 0);
    }

    private static void refusedWriteIsFalse() {
        c.sentence("false, and a FAULT is logged (fault() tells)");
        DmaGate g = made();
        g.enter(1, 2, 3, true, 17);
        c.dueWrite(g, 2, 5, 9, 1);
        c.dueWrite(g, 1, 0x10005, 9, 2);
        c.dueWrite(g, 1, 5, 9, 3);
        c.dueWrite(g, 0, 16384, 9, 4);
        c.dueWrite(g, 0, -1, 9, 4);
        c.dueWrite(g, 1, 0x20005, 9, 5);
        c.dueRecord(g, 0, 1, 2, 1, 5);
        c.dueRecord(g, 1, 2, 1, 1, 0x10005);
        c.dueRecord(g, 2, 3, 1, 1, 5);
        c.dueRecord(g, 3, 4, 0, 1, 16384);
        c.dueRecord(g, 4, 4, 0, 1, -1);
        c.dueRecord(g, 5, 5, 1, 1, 0x20005);
        int nines = 0;
        for (int i = 0; i < 16384; i++) {
            nines += g.peek(i) == 9 ? 1 : 0;
        }
        c.due("words that were written", nines, 0);
    }

    private static void writeNoSuchDevice() {
        c.sentence("or there is no such device (fault() is 0 then)");
        int[] addresses = {0, 5, 0xfffff, 1 << 20, -1};
        for (int d : NO_DEVICE) {
            for (int address : addresses) {
                DmaGate with = Gates.busy(7, 6);
                c.due("fault() before", with.fault(), 1);
                c.due("write(" + d + ", " + address + ", 9)", with.write(d, address, 9), false);
                c.due("fault()", with.fault(), 0);
                elseAsWithout(with);
            }
        }
    }

    private static void faultOfANewGate() {
        c.sentence("(0: none)");
        DmaGate g = new DmaGate();
        c.due("new: fault()", g.fault(), 0);
        g.context(0, true, 0, 0);
        c.dueRead(g, 0, 0, 3, 0);
        c.dueRead(g, 1, 0, 0, 1);
        c.dueWrite(g, 0, 100, 3, 0);
    }

    private static void faultIsOfTheLatest() {
        c.sentence("The FAULT of the latest read(), write()");
        DmaGate g = made();
        c.dueRead(g, 2, 0, 0, 1);
        c.dueRead(g, 0, 16384, 0, 4);
        c.dueRead(g, 2, 0, 0, 1);
        c.dueRead(g, 0, 0, 0, 0);
        c.dueWrite(g, 1, 0, 0, 3);
        c.dueRead(g, 0, 0, 0, 0);
        c.dueRead(g, 1, 0, 0, 3);
        c.dueWrite(g, 0, 0, 0, 0);
        for (int k = 0; k < 7; k++) {
            c.dueRead(g, 2, 0, 0, 1);
        }
        c.due("a full LOG or not", g.count(2), 1);
        c.dueRead(g, 0, -1, 0, 4);
    }

    private static void faultOfARefusedCall() {
        c.sentence("The FAULT of the latest read(), write()", "no other call changes it");
        DmaGate g = made();
        g.read(1, 0);
        g.poke(1, 1);
        g.peek(1);
        g.fill(1, 1, 1, 1);
        g.table(1024);
        g.table(-1);
        g.context(3, true, 0, 0);
        g.enter(5, 5, 1, true, 5);
        g.ring(0, 0, 2);
        g.tail(0, 1);
        g.step(0, 1001);
        g.step(8, 1);
        g.step(0, 0);
        g.resume(0);
        g.engine(0, 0);
        for (int code = 0; code < 6; code++) {
            g.command(code, 0, 0);
        }
        g.obey(6);
        g.count(0);
        g.record(0, 0);
        g.drop();
        g.clear();
        g.leaf(0, 0);
        c.due("fault()", g.fault(), 3);
        g.step(0, 1);
        c.due("fault() behind a STEP", g.fault(), 0);
    }

    private static void faultOfTheLatestAccessOfAStep() {
        c.sentence("or of the latest access of step()");
        DmaGate g = made();
        g.ring(0, 400, 4);
        Gates.descriptor(g, 400, 100, 200, 1, 0);
        Gates.descriptor(g, 404, 100, 16384, 1, 0);
        Gates.descriptor(g, 408, 16384, 100, 1, 0);
        g.read(2, 0);
        g.tail(0, 3);
        g.step(0, 3);
        c.due("led: fault()", g.fault(), 0);
        c.due("step(0, 9)", g.step(0, 9), 2);
        c.due("refused: fault()", g.fault(), 4);
        c.dueWrite(g, 1, 0, 0, 3);
        g.poke(405, 200);
        g.resume(0);
        c.due("resume() has no access", g.fault(), 3);
        c.due("step(0, 3)", g.step(0, 3), 3);
        c.due("led: fault()", g.fault(), 0);
        c.due("step(0, 9)", g.step(0, 9), 2);
        c.due("refused: fault()", g.fault(), 4);
        g.ring(2, 0, 2);
        g.tail(2, 1);
        c.due("step(2, 9)", g.step(2, 9), 1);
        c.due("fault()", g.fault(), 1);
    }

    private static void faultOfAStepWithoutAccess() {
        c.sentence("or of the latest access of step()", "no access, nothing new");
        DmaGate g = made();
        g.ring(0, 16384, 2);
        g.tail(0, 1);
        g.step(0, 9);
        c.due("fault()", g.fault(), 4);
        g.read(2, 0);
        c.due("step() of a stopped one", g.step(0, 9), 0);
        c.due("fault()", g.fault(), 1);
        c.due("step() of an idle one", g.step(5, 9), 0);
        c.due("fault()", g.fault(), 1);
        g.ring(7, 400, 2);
        g.tail(7, 1);
        c.due("step(7, 0)", g.step(7, 0), 0);
        c.due("fault()", g.fault(), 1);
    }
}
