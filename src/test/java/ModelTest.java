import java.util.NoSuchElementException;
import java.util.Random;

/** Runs of 512 chance calls (the same each time) on the class and on Model: equal answers are due. */
public final class ModelTest {
    private static final int RUNS = 3000;
    private static final int CALLS = 512;
    private static final int[] EDGES = {
        -1, 0, 1, 7, 8, 15, 16, 63, 64, 255, 256, 257, 1000, 1001, 16383, 16384, 0xfffff, 0x100000,
        Integer.MIN_VALUE, Integer.MAX_VALUE,
    };

    private final Random chance;
    private final DmaGate gate = new DmaGate();
    private final Model model = new Model();
    private String call = "";
    private Integer got;
    private Integer want;

    private ModelTest(long seed) {
        chance = new Random(seed);
    }

    public static void main(String[] args) {
        int wrong = 0;
        int[] faults = new int[6];
        int[] states = new int[3];
        for (int run = 0; run < RUNS && wrong < 5; run++) {
            ModelTest t = new ModelTest(run);
            for (int k = 0; k < CALLS; k++) {
                t.oneCall(k);
                String state = t.differs();
                faults[t.model.lastFault]++;
                states[t.gate.engine(k & 7, 0)]++;
                boolean same = t.got == null ? t.want == null : t.got.equals(t.want);
                if (!same || state != null) {
                    wrong++;
                    System.out.println("run " + run + ", call " + k + ": " + t.call + " answered "
                            + t.got + ", due is " + t.want + (state == null ? "" : "; then " + state));
                    break;
                }
            }
            String words = t.wordsDiffer();
            if (words != null) {
                wrong++;
                System.out.println("run " + run + ": " + words);
            }
        }
        for (int n : faults) {
            wrong += n == 0 ? 1 : 0;
        }
        for (int n : states) {
            wrong += n == 0 ? 1 : 0;
        }
        System.out.println("ModelTest: " + RUNS + " runs, " + wrong + " not as due; FAULTS 0 .. 5 came up "
                + java.util.Arrays.toString(faults) + ", STATES 0 .. 2 " + java.util.Arrays.toString(states));
        if (wrong != 0) {
            System.exit(1);
        }
    }

    /** All that the face tells without changing anything. */
    private String differs() {
        for (int what = 0; what < 8; what++) {
            if (gate.count(what) != model.count(what)) {
                return "count(" + what + ") is " + gate.count(what) + ", due is " + model.count(what);
            }
        }
        for (int i = 0; i < 6; i++) {
            for (int what = 0; what < 5; what++) {
                if (gate.leaf(i, what) != model.leaf(i, what)) {
                    return "leaf(" + i + ", " + what + ") is " + gate.leaf(i, what)
                            + ", due is " + model.leaf(i, what);
                }
                if (gate.record(i, what) != model.record(i, what)) {
                    return "record(" + i + ", " + what + ") is " + gate.record(i, what)
                            + ", due is " + model.record(i, what);
                }
            }
        }
        for (int d = 0; d < 8; d++) {
            for (int what = 0; what < 5; what++) {
                if (gate.engine(d, what) != model.engine(d, what)) {
                    return "engine(" + d + ", " + what + ") is " + gate.engine(d, what)
                            + ", due is " + model.engine(d, what);
                }
            }
        }
        return gate.fault() == model.lastFault ? null
                : "fault() is " + gate.fault() + ", due is " + model.lastFault;
    }

    private String wordsDiffer() {
        for (int i = 0; i < 16384; i++) {
            if (gate.peek(i) != model.words[i]) {
                return "peek(" + i + ") is " + gate.peek(i) + ", due is " + model.words[i];
            }
        }
        return null;
    }

    private int below(int n) {
        return chance.nextInt(n);
    }

    /** Mostly 0 .. n - 1, at times an edge of the document or of int. */
    private int mostly(int n) {
        return below(25) == 0 ? EDGES[below(EDGES.length)] : below(n);
    }

    private int device() {
        return mostly(below(3) == 0 ? 8 : 4);
    }

    /** The first five PAGES hold tables and contexts, so few that accesses often find their way. */
    private int page() {
        return below(3) == 0 ? below(4) * 16 : mostly(6);
    }

    private int address() {
        if (below(20) == 0) {
            return EDGES[below(EDGES.length)];
        }
        int v = below(2) << 8 | below(2) << 4 | below(3);
        return v << 8 | below(below(2) == 0 ? 32 : 256);
    }

    private int word() {
        switch (below(4)) {
            case 0:
                return address();
            case 1:
                return below(6);
            case 2:
                return page() << 8 | 1 | below(16);
            default:
                return chance.nextInt();
        }
    }

    private int place() {
        return below(2) == 0 ? mostly(16384) : mostly(6) << 8 | below(40);
    }

    private void answer(String text, Integer g, Integer m) {
        call = text;
        got = g;
        want = m;
    }

    private void answer(String text, boolean g, boolean m) {
        answer(text, g ? 1 : 0, m ? 1 : 0);
    }

    private void oneCall(int k) {
        // Tables first, then all the calls among one another.
        int kind = k < 40 ? 3 + below(3) : below(30);
        if (kind <= 5) {
            hostCall(kind);
        } else if (kind <= 15) {
            accessCall();
        } else if (kind <= 24) {
            engineCall(kind);
        } else {
            commandCall(kind);
        }
    }

    private void hostCall(int kind) {
        int a = place();
        int b = word();
        switch (kind) {
            case 0:
                Integer was;
                try {
                    was = gate.poke(a, b);
                } catch (NoSuchElementException e) {
                    was = null;
                }
                answer("poke(" + a + ", " + b + ")", was, model.poke(a, b));
                break;
            case 1:
                Integer is;
                try {
                    is = gate.peek(a);
                } catch (NoSuchElementException e) {
                    is = null;
                }
                answer("peek(" + a + ")", is, model.peek(a));
                break;
            case 2:
                if (below(8) == 0) {
                    int t = mostly(3) * (below(8) == 0 ? 8 : 16);
                    answer("table(" + t + ")", gate.table(t), model.table(t));
                } else {
                    int n = below(4) == 0 ? mostly(257) : mostly(9);
                    int step = below(3) - 1;
                    answer("fill(" + a + ", " + n + ", " + b + ", " + step + ")",
                            gate.fill(a, n, b, step), model.fill(a, n, b, step));
                }
                break;
            case 3:
                int d = device();
                boolean through = below(4) == 0;
                int root = 1 + mostly(2);
                int domain = mostly(3);
                answer("context(" + d + ", " + through + ", " + root + ", " + domain + ")",
                        gate.context(d, through, root, domain), model.context(d, through, root, domain));
                break;
            default:
                int page = mostly(6);
                int i = mostly(3);
                int rights = below(3) == 0 ? mostly(4) : 3;
                boolean leaf = below(3) == 0;
                int to = page();
                answer("enter(" + page + ", " + i + ", " + rights + ", " + leaf + ", " + to + ")",
                        gate.enter(page, i, rights, leaf, to), model.enter(page, i, rights, leaf, to));
                break;
        }
    }

    private void accessCall() {
        int d = device();
        int a = address();
        if (below(2) == 0) {
            Integer is;
            try {
                is = gate.read(d, a);
            } catch (NoSuchElementException e) {
                is = null;
            }
            answer("read(" + d + ", " + a + ")", is, model.read(d, a));
        } else {
            int v = word();
            answer("write(" + d + ", " + a + ", " + v + ")", gate.write(d, a, v), model.write(d, a, v));
        }
    }

    private void engineCall(int kind) {
        int d = device();
        switch (kind) {
            case 16:
                int a = below(12) == 0 ? address() : address() & -4;
                int n = below(3) == 0 ? mostly(65) : 1 + mostly(5);
                answer("ring(" + d + ", " + a + ", " + n + ")", gate.ring(d, a, n), model.ring(d, a, n));
                break;
            case 17:
            case 18:
            case 19:
                int t = mostly(4);
                answer("tail(" + d + ", " + t + ")", gate.tail(d, t), model.tail(d, t));
                break;
            case 20:
                answer("resume(" + d + ")", gate.resume(d), model.resume(d));
                break;
            default:
                int steps = below(4) == 0 ? mostly(1001) : mostly(8);
                answer("step(" + d + ", " + steps + ")", gate.step(d, steps), model.step(d, steps));
                break;
        }
    }

    private void commandCall(int kind) {
        switch (kind) {
            case 25:
            case 26:
                int code = mostly(6);
                int a = code == 5 ? place() : mostly(4);
                int b = code == 2 ? address() >> 8 : word();
                answer("command(" + code + ", " + a + ", " + b + ")",
                        gate.command(code, a, b), model.command(code, a, b));
                break;
            case 27:
                int n = mostly(4);
                answer("obey(" + n + ")", gate.obey(n), model.obey(n));
                break;
            case 28:
                answer("drop()", gate.drop(), model.drop());
                break;
            default:
                if (below(2) == 0) {
                    answer("clear()", gate.clear(), model.clear());
                } else {
                    int what = mostly(9);
                    answer("count(" + what + ")", gate.count(what), model.count(what));
                }
                break;
        }
    }
}
