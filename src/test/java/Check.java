import java.util.NoSuchElementException;

/** Compares answers with those that are due; a test ends through end(). */
final class Check {
    private int wrong = 0;
    private int asked = 0;
    private int sentences = 0;
    private int askedBefore = 0;
    private String about = "";

    /** The document's words that the answers from here on are about. */
    void sentence(String words) {
        closeSentence();
        sentences++;
        askedBefore = asked;
        about = words;
    }

    /** The same, of one side of what the words say. */
    void sentence(String words, String side) {
        sentence(words);
        about = words + " - " + side;
    }

    private void closeSentence() {
        if (sentences > 0 && asked == askedBefore) {
            wrong++;
            System.out.println("no answer was asked for: " + about);
        }
    }

    private void tell(String call, String got, String want) {
        wrong++;
        System.out.println((about.isEmpty() ? "" : "[" + about + "] ")
                + call + " answered " + got + ", due is " + want);
    }

    void due(String call, int got, int want) {
        asked++;
        if (got != want) {
            tell(call, "" + got, "" + want);
        }
    }

    void due(String call, boolean got, boolean want) {
        asked++;
        if (got != want) {
            tell(call, "" + got, "" + want);
        }
    }

    void pokeThrows(DmaGate g, int i) {
        boolean thrown = false;
        try {
            g.poke(i, 1);
        } catch (NoSuchElementException e) {
            thrown = true;
        }
        due("poke(" + i + ", 1) throws NoSuchElementException", thrown, true);
    }

    void peekThrows(DmaGate g, int i) {
        boolean thrown = false;
        try {
            g.peek(i);
        } catch (NoSuchElementException e) {
            thrown = true;
        }
        due("peek(" + i + ") throws NoSuchElementException", thrown, true);
    }

    void readThrows(DmaGate g, int d) {
        boolean thrown = false;
        try {
            g.read(d, 0);
        } catch (NoSuchElementException e) {
            thrown = true;
        }
        due("read(" + d + ", 0) throws NoSuchElementException", thrown, true);
    }

    /** A RECORD, all its columns. */
    void dueRecord(DmaGate g, int i, int fault, int device, int write, int address) {
        due("record(" + i + ", 0)", g.record(i, 0), fault);
        due("record(" + i + ", 1)", g.record(i, 1), device);
        due("record(" + i + ", 2)", g.record(i, 2), write);
        due("record(" + i + ", 3)", g.record(i, 3), address);
    }

    /** A remembered LEAF, all its columns. */
    void dueLeaf(DmaGate g, int i, int domain, int level, int above, int page, int rights) {
        due("leaf(" + i + ", 0)", g.leaf(i, 0), domain);
        due("leaf(" + i + ", 1)", g.leaf(i, 1), level);
        due("leaf(" + i + ", 2)", g.leaf(i, 2), above);
        due("leaf(" + i + ", 3)", g.leaf(i, 3), page);
        due("leaf(" + i + ", 4)", g.leaf(i, 4), rights);
    }

    /** An engine, all that engine() tells. */
    void dueEngine(DmaGate g, int d, int state, int head, int tail, int done, int copied) {
        due("engine(" + d + ", 0)", g.engine(d, 0), state);
        due("engine(" + d + ", 1)", g.engine(d, 1), head);
        due("engine(" + d + ", 2)", g.engine(d, 2), tail);
        due("engine(" + d + ", 3)", g.engine(d, 3), done);
        due("engine(" + d + ", 4)", g.engine(d, 4), copied);
    }

    /** read() by a device, and what fault() tells then. */
    void dueRead(DmaGate g, int d, int address, int word, int fault) {
        due("read(" + d + ", " + address + ")", g.read(d, address), word);
        due("fault() behind read(" + d + ", " + address + ")", g.fault(), fault);
    }

    /** write() by a device, and what fault() tells then. */
    void dueWrite(DmaGate g, int d, int address, int v, int fault) {
        due("write(" + d + ", " + address + ", " + v + ")", g.write(d, address, v), fault == 0);
        due("fault() behind write(" + d + ", " + address + ", " + v + ")", g.fault(), fault);
    }

    void end(String name) {
        closeSentence();
        System.out.println(name + ": " + (sentences > 0 ? sentences + " sentences, " : "")
                + asked + " answers, " + wrong + " not as due");
        if (wrong != 0) {
            System.exit(1);
        }
    }
}
