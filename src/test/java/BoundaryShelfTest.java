import java.io.IOException;

/** Boundaries of promises 33 to 42: the image, what is told, shelves. */
public final class BoundaryShelfTest {
    private static final int MIN = Streets.MIN;
    private static final int MAX = Streets.MAX;
    private static final int[] NO_SHELVES = {MIN, -1, 8, MAX};

    private static Sentences document;

    public static void main(String[] args) throws IOException {
        document = new Sentences("BoundaryShelfTest");
        image();
        restore();
        restoreAll();
        count();
        keep();
        row();
        rowSizes();
        put();
        putLowestBits();
        element();
        copyRefused();
        copyPlaces();
        copyOnItself();
        cost();
        toss();
        document.end(33, 42);
    }

    private static void due(String call, long got, long want) {
        document.due(call, got, want);
    }

    private static PushedTillItCatches told(String text) {
        return Checks.told(text);
    }

    // ---- the image, what is told

    private static void image() {
        document.says(33, "THE IMAGE is taken: AT.");
        due("image() of nothing", new PushedTillItCatches().image(), 0);
        due("image() AT the end", Streets.full().image(), 20);
        due("image() while it RUNS", Streets.busyRunning().image(), 3);
        PushedTillItCatches x = Streets.busy();
        due("image() once more", x.image(), 3);
        x.parks(9);
        due("restore() of the last one", x.restore(), 3);
        due("PACE of the last one", x.count(3), 16);
        due("GAS of the last one", x.count(5), 2);
    }

    private static void restore() {
        document.says(34, "THE IMAGE is RESTORED: AT. -3 there is none.");
        due("restore() on a new object", new PushedTillItCatches().restore(), -3);
        document.leavesAll("restore() where there is none", BoundaryShelfTest::busyWithoutImage, x -> x.restore(), -3);
        PushedTillItCatches x = Streets.busy();
        due("restore()", x.restore(), 1);
        due("PACE", x.count(3), 5);
        due("restore() once more", x.restore(), 1);
        x.rolls(1);
        due("PACE of a YARD rolled", x.count(3), 13);
        due("restore() behind a YARD rolled", x.restore(), 1);
        due("PACE as it was", x.count(3), 5);
        document.says(34, "THE IMAGE: all that there is, but SHELVES (and THE IMAGE); RESTORED all is as it was then.");
        x = new PushedTillItCatches();
        x.image();
        String empty = Checks.stateOf(x);
        Checks.tell(x, 0, "y49;y25;p20401;p01000;w20;c9;g9;h9;r01;");
        due("restore() of nothing", x.restore(), 0);
        document.holds("no YARDS, nobody", empty.equals(Checks.stateOf(x)));
        due("yard(0, 0)", x.yard(0, 0), -1);
        due("pusher(0, 0)", x.pusher(0, 0), -1);
        due("WEIGHT", x.set(0, 1), 8);
        due("COLD", x.set(1, 1), 3);
        due("HAND", x.set(3, 1), 0);
        x = Streets.busyRunning();
        x.image();
        x.parks(0);
        due("restore() of what RUNS", x.restore(), 3);
        due("it RUNS", x.count(4), 1);
        due("rolls(1)", x.rolls(1), -3);
        x.parks(0);
        x.image();
        x.restore();
        due("it does not RUN", x.count(4), 0);
    }

    private static PushedTillItCatches busyWithoutImage() {
        PushedTillItCatches x = told("y00;y16;p12051;w06;c4;g2;h5;r01;");
        x.keep(3, 1, 4, 4);
        Checks.fill(x, 4, 1, 5, 6);
        return x;
    }

    private static void restoreAll() {
        document.says(34, "when THE IMAGE is RESTORED, SHELVES stay as they are");
        PushedTillItCatches x = Streets.full();
        x.image();
        String before = Checks.stateOf(x);
        x.parks(7);
        x.waits(60);
        for (int what = 0; what < 4; what++) {
            x.set(what, 9);
        }
        x.keep(0, 1, 7, 7);
        x.keep(5, 0, 0, 0);
        x.row(6, 2, 1);
        x.put(6, 0, 66);
        due("restore() of a full street", x.restore(), 20);
        document.holds("all is as it was", before.equals(Checks.stateOf(x)));
        due("WEIGHT", x.set(0, 8), 8);
        due("COLD", x.set(1, 3), 3);
        due("GAS", x.set(2, 0), 0);
        due("HAND", x.set(3, 0), 0);
        due("cost(0)", x.cost(0), 8);
        due("cost(5)", x.cost(5), -11);
        due("element(6, 0)", x.element(6, 0), 66);
        due("lays(0) on a full street", x.lays(0), -2);
    }

    private static void count() {
        document.says(35, "0 YARDS, 1 PUSHERS, 2 AT, 3 PACE, 4 1 it RUNS, 5 GAS, 6 all BREATHS, 7 all STRENGTHS; -1 for others.");
        for (int what : new int[] {MIN, -1, 8, MAX}) {
            document.leavesAll("count(" + what + ")", Streets::busy, x -> x.count(what), -1);
        }
        int[] busy = {9, 3, 3, 16, 0, 2, 19, 41};
        for (int what = 0; what < 8; what++) {
            int number = what;
            document.leavesAll("count(" + what + ")", Streets::busy, x -> x.count(number), busy[what]);
        }
        PushedTillItCatches x = told("y49;".repeat(20) + "p20400;".repeat(5) + "g9;");
        int[] most = {20, 5, 0, 0, 0, 9, 200, 100};
        for (int what = 0; what < 8; what++) {
            due("count(" + what + ") of the most", x.count(what), most[what]);
        }
        x.rolls(20);
        due("AT 20", x.count(2), 20);
        due("PACE 24", x.count(3), 24);
        due("BREATHS", x.count(6), 100);
        x = told(Streets.RUNNING);
        due("it RUNS", x.count(4), 1);
        due("BREATHS of nobody", x.count(6), 0);
        due("STRENGTHS of nobody", x.count(7), 0);
    }

    // ---- shelves

    private static void keep() {
        document.says(36, "SHELF d gets: what = 0 nothing (the others do not matter); 1 a YARD's KIND of KIND k with a FIGURE: 0. -1.");
        for (int number : new int[] {MIN, -1, MAX}) {
            keepRefused(number, 1, 0, 0);
            keepRefused(number, 0, 0, 0);
            keepRefused(0, number, 0, 0);
            keepRefused(0, 1, number, 0);
            keepRefused(0, 1, 0, number);
        }
        keepRefused(8, 0, 0, 0);
        keepRefused(8, 1, 0, 0);
        keepRefused(0, 2, 0, 0);
        keepRefused(0, 1, 8, 0);
        keepRefused(0, 1, 0, 10);
        keepRefused(6, 1, 8, 10);
        for (int d = 0; d < 8; d += 7) {
            PushedTillItCatches x = Streets.busy();
            due("keep(" + d + ", 1, 0, 0)", x.keep(d, 1, 0, 0), 0);
            due("cost(" + d + ")", x.cost(d), 2);
            due("keep(" + d + ", 1, 7, 9)", x.keep(d, 1, 7, 9), 0);
            due("cost(" + d + ")", x.cost(d), 10);
            due("keep(" + d + ", 0, MIN, MAX)", x.keep(d, 0, MIN, MAX), 0);
            due("cost(" + d + ")", x.cost(d), -11);
            due("keep(" + d + ", 0, 8, 10)", x.keep(d, 0, 8, 10), 0);
        }
        document.says(36, "SHELVES 0 .. 7 each hold nothing (at first), a YARD's KIND, a ROW.");
        PushedTillItCatches x = Streets.busy();
        due("a YARD in place of a ROW", x.keep(3, 1, 1, 5), 0);
        due("cost(3)", x.cost(3), 7);
        due("put(3, 0, 0)", x.put(3, 0, 0), -12);
        due("nothing in place of a ROW", x.keep(2, 0, 0, 0), 0);
        due("put(2, 0, 0)", x.put(2, 0, 0), -11);
        due("nothing in place of nothing", x.keep(7, 0, 0, 0), 0);
        due("cost(7)", x.cost(7), -11);
        document.says(36, "each with a FIGURE (0 .. 9)");
        for (int figure : new int[] {0, 9}) {
            due("keep(7, 1, 1, " + figure + ")", x.keep(7, 1, 1, figure), 0);
            due("cost(7)", x.cost(7), 2 + figure);
        }
    }

    private static void keepRefused(int d, int what, int k, int figure) {
        String call = "keep(" + d + ", " + what + ", " + k + ", " + figure + ")";
        document.leavesAll(call, Streets::busy, x -> x.keep(d, what, k, figure), -1);
    }

    private static void rowRefused(int d, int sort, int n, int want) {
        String call = "row(" + d + ", " + sort + ", " + n + ")";
        document.leavesAll(call, Streets::busy, x -> x.row(d, sort, n), want);
    }

    private static void row() {
        document.says(37, "SHELF d gets a ROW of a SORT: 0. -1 (n above 100); -14.");
        for (int d : NO_SHELVES) {
            rowRefused(d, 0, 1, -1);
            rowRefused(d, 0, 0, -1);
        }
        for (int sort : new int[] {MIN, -1, 3, MAX}) {
            rowRefused(1, sort, 1, -1);
            rowRefused(0, sort, 0, -1);
        }
        rowRefused(1, 0, 101, -1);
        rowRefused(1, 2, MAX, -1);
        document.says(37, "-14 a size below 0");
        rowRefused(1, 0, -1, -14);
        rowRefused(6, 2, MIN, -14);
        rowRefused(0, 1, -100, -14);
        document.says(37, "Answers of several REFUSALS are the first one as they are told at the call.");
        rowRefused(8, 0, -1, -1);
        rowRefused(-1, 0, MIN, -1);
        rowRefused(1, 3, -1, -1);
        rowRefused(1, -1, MIN, -1);
        rowRefused(8, 3, 101, -1);
    }

    private static void rowSizes() {
        document.says(37, "A ROW has a SORT (0 bytes, 1 shorts, 2 ints) and 0 .. 100 elements, 0 at first");
        for (int sort = 0; sort < 3; sort++) {
            for (int size : new int[] {0, 1, 99, 100}) {
                PushedTillItCatches x = new PushedTillItCatches();
                due("row(7, " + sort + ", " + size + ")", x.row(7, sort, size), 0);
                due("put(7, size, 1)", x.put(7, size, 1), -13);
                document.holds("no element(7, size)", Checks.thrownBy(x, 7, size) == IllegalStateException.class);
                if (size > 0) {
                    due("element(7, 0)", x.element(7, 0), 0);
                    due("element(7, size - 1)", x.element(7, size - 1), 0);
                    due("put(7, size - 1, 70000)", x.put(7, size - 1, 70000), 0);
                    due("element(7, size - 1)", x.element(7, size - 1), new int[] {112, 4464, 70000}[sort]);
                }
            }
        }
        PushedTillItCatches x = new PushedTillItCatches();
        x.row(0, 2, 100);
        x.put(0, 0, 5);
        x.put(0, 99, 5);
        due("a lesser ROW in place of it", x.row(0, 2, 1), 0);
        due("element(0, 0)", x.element(0, 0), 0);
        due("put(0, 1, 1)", x.put(0, 1, 1), -13);
        due("a greater ROW in place of it", x.row(0, 2, 100), 0);
        due("element(0, 99)", x.element(0, 99), 0);
        x = Streets.busy();
        due("a ROW in place of a YARD", x.row(0, 0, 1), 0);
        due("cost(0)", x.cost(0), -12);
        due("a ROW in place of nothing", x.row(6, 0, 1), 0);
        due("cost(6)", x.cost(6), -12);
    }

    private static void putRefused(int d, int i, int want) {
        document.leavesAll("put(" + d + ", " + i + ", 7)", Streets::busy, x -> x.put(d, i, 7), want);
    }

    private static void put() {
        document.says(38, "Element i of the ROW becomes v: 0. -1, -11, -12, -13.");
        for (int d : NO_SHELVES) {
            putRefused(d, 0, -1);
            putRefused(d, -1, -1);
        }
        putRefused(6, 0, -11);
        putRefused(7, -1, -11);
        putRefused(0, 0, -12);
        putRefused(5, 100, -12);
        document.says(38, "-13 a place that isn't there (a number or a size that isn't as told, too)");
        for (int i : new int[] {MIN, -1, 3, 100, MAX}) {
            putRefused(1, i, -13);
        }
        putRefused(2, 2, -13);
        putRefused(3, 1, -13);
        putRefused(4, 0, -13);
        document.says(38, "SHELVES 0 .. 7");
        for (int d : new int[] {0, 7}) {
            PushedTillItCatches x = new PushedTillItCatches();
            x.row(d, 2, 3);
            due("put(" + d + ", 0, 1)", x.put(d, 0, 1), 0);
            due("put(" + d + ", 2, 3)", x.put(d, 2, 3), 0);
            due("element(" + d + ", 0)", x.element(d, 0), 1);
            due("element(" + d + ", 1)", x.element(d, 1), 0);
            due("element(" + d + ", 2)", x.element(d, 2), 3);
        }
    }

    private static void putLowestBits() {
        document.says(38, "what is put in keeps its lowest bits");
        long[][] kept = {
            {0, 0, 0, 0}, {-1, -1, -1, -1}, {127, 127, 127, 127}, {128, -128, 128, 128}, {-128, -128, -128, -128},
            {-129, 127, -129, -129}, {255, -1, 255, 255}, {256, 0, 256, 256}, {32767, -1, 32767, 32767},
            {32768, 0, -32768, 32768}, {-32768, 0, -32768, -32768}, {-32769, -1, 32767, -32769},
            {65535, -1, -1, 65535}, {65536, 0, 0, 65536}, {MAX, -1, -1, MAX}, {MIN, 0, 0, MIN}};
        for (int sort = 0; sort < 3; sort++) {
            PushedTillItCatches x = new PushedTillItCatches();
            x.row(0, sort, kept.length);
            for (int i = 0; i < kept.length; i++) {
                due("put(0, " + i + ", " + kept[i][0] + ")", x.put(0, i, (int) kept[i][0]), 0);
            }
            for (int i = 0; i < kept.length; i++) {
                due("SORT " + sort + " of " + kept[i][0], x.element(0, i), kept[i][1 + sort]);
            }
        }
    }

    private static void elementThrows(int d, int i, Class<?> what) {
        document.holds("element(" + d + ", " + i + ") throws " + what, Checks.thrownBy(Streets.busy(), d, i) == what);
        document.leavesAll("element(" + d + ", " + i + ")", Streets::busy,
                x -> Checks.thrownBy(x, d, i) == what ? 1 : 0, 1);
    }

    private static void element() {
        document.says(39, "Element i of the ROW. IllegalArgumentException: no such SHELF");
        for (int d : NO_SHELVES) {
            elementThrows(d, 0, IllegalArgumentException.class);
            elementThrows(d, -1, IllegalArgumentException.class);
        }
        document.says(39, "IllegalStateException: no ROW, no such place.");
        elementThrows(6, 0, IllegalStateException.class);
        elementThrows(7, MIN, IllegalStateException.class);
        elementThrows(0, 0, IllegalStateException.class);
        elementThrows(5, 1, IllegalStateException.class);
        for (int i : new int[] {MIN, -1, 3, 100, MAX}) {
            elementThrows(1, i, IllegalStateException.class);
        }
        elementThrows(2, 2, IllegalStateException.class);
        elementThrows(4, 0, IllegalStateException.class);
        document.says(39, "Element i of the ROW.");
        document.leavesAll("element(1, 0)", Streets::busy, x -> x.element(1, 0), 1);
        document.leavesAll("element(1, 2)", Streets::busy, x -> x.element(1, 2), 2);
        PushedTillItCatches x = new PushedTillItCatches();
        Checks.fill(x, 7, 2, MIN, MAX);
        due("element(7, 0)", x.element(7, 0), MIN);
        due("element(7, 1)", x.element(7, 1), MAX);
    }

    private static void copied(int[] call, int want) {
        document.leavesAll("copy" + java.util.Arrays.toString(call), Streets::busy,
                x -> x.copy(call[0], call[1], call[2], call[3], call[4]), want);
    }

    private static void copyRefused() {
        document.says(40, "-1, -11 (either), -12 (no ROWS of one SORT), -13.");
        for (int d : NO_SHELVES) {
            copied(new int[] {d, 0, 1, 0, 1}, -1);
            copied(new int[] {1, 0, d, 0, 1}, -1);
            copied(new int[] {d, 0, 6, 0, 1}, -1);
            copied(new int[] {6, 0, d, 0, 1}, -1);
            copied(new int[] {0, -1, d, -1, -1}, -1);
        }
        copied(new int[] {6, 0, 1, 0, 1}, -11);
        copied(new int[] {1, 0, 6, 0, 1}, -11);
        copied(new int[] {6, 0, 7, 0, 1}, -11);
        copied(new int[] {0, 0, 6, 0, 1}, -11);
        copied(new int[] {6, 0, 0, 0, 1}, -11);
        copied(new int[] {6, -1, 1, 100, -1}, -11);
        copied(new int[] {0, 0, 1, 0, 1}, -12);
        copied(new int[] {1, 0, 0, 0, 1}, -12);
        copied(new int[] {0, 0, 5, 0, 1}, -12);
        copied(new int[] {1, 0, 2, 0, 1}, -12);
        copied(new int[] {2, 0, 3, 0, 1}, -12);
        copied(new int[] {3, 0, 1, 0, 0}, -12);
        copied(new int[] {1, -1, 3, -1, -1}, -12);
        document.says(40, "-13 a place that isn't there (a number or a size that isn't as told, too)");
        for (int off : new int[] {MIN, -1, MAX}) {
            copied(new int[] {1, off, 1, 0, 1}, -13);
            copied(new int[] {1, 0, 1, off, 1}, -13);
            copied(new int[] {1, 0, 1, 0, off}, -13);
            copied(new int[] {1, off, 1, off, off}, -13);
            copied(new int[] {1, off, 1, 0, 0}, -13);
            copied(new int[] {1, 0, 1, off, 0}, -13);
        }
        copied(new int[] {1, 1, 1, 0, MAX}, -13);
        copied(new int[] {1, 0, 1, 1, MAX}, -13);
        copied(new int[] {1, MAX, 1, MAX, MAX}, -13);
        copied(new int[] {1, 0, 1, 0, 4}, -13);
        copied(new int[] {1, 1, 1, 0, 3}, -13);
        copied(new int[] {1, 0, 1, 1, 3}, -13);
        copied(new int[] {1, 3, 1, 0, 1}, -13);
        copied(new int[] {1, 0, 1, 3, 1}, -13);
        copied(new int[] {2, 0, 4, 0, 1}, -13);
        copied(new int[] {4, 0, 2, 0, 1}, -13);
        copied(new int[] {1, 4, 1, 0, 0}, -13);
        copied(new int[] {1, 0, 1, 4, 0}, -13);
    }

    private static void copyPlaces() {
        document.says(40, "n elements of the ROW in SHELF d from i on come to that in SHELF e from j on: n.");
        copied(new int[] {1, 0, 1, 0, 0}, 0);
        copied(new int[] {1, 3, 1, 3, 0}, 0);
        copied(new int[] {4, 0, 2, 2, 0}, 0);
        copied(new int[] {4, 0, 4, 0, 0}, 0);
        copied(new int[] {1, 0, 1, 0, 3}, 3);
        for (int sort = 0; sort < 3; sort++) {
            PushedTillItCatches x = new PushedTillItCatches();
            x.row(0, sort, 100);
            x.row(7, sort, 100);
            x.put(0, 0, 11);
            x.put(0, 98, 22);
            x.put(0, 99, 33);
            due("all of 100", x.copy(0, 0, 7, 0, 100), 100);
            due("the first", x.element(7, 0), 11);
            due("the last", x.element(7, 99), 33);
            due("the last to the first", x.copy(0, 99, 7, 0, 1), 1);
            due("the first then", x.element(7, 0), 33);
            due("the second stays", x.element(7, 1), 0);
            due("the first to the last", x.copy(0, 0, 7, 99, 1), 1);
            due("the last then", x.element(7, 99), 11);
            due("the last but one stays", x.element(7, 98), 22);
            due("what is taken stays", x.element(0, 99), 33);
            due("101 of 100", x.copy(0, 0, 7, 0, 101), -13);
        }
    }

    private static void copyOnItself() {
        document.says(40, "n elements of the ROW in SHELF d from i on");
        int[][] calls = {{0, 1, 4}, {1, 0, 4}, {0, 2, 3}, {2, 0, 3}, {0, 0, 5}, {4, 0, 1}, {0, 4, 1}};
        int[][] then = {{1, 1, 2, 3, 4}, {2, 3, 4, 5, 5}, {1, 2, 1, 2, 3}, {3, 4, 5, 4, 5}, {1, 2, 3, 4, 5},
            {5, 2, 3, 4, 5}, {1, 2, 3, 4, 1}};
        for (int k = 0; k < calls.length; k++) {
            PushedTillItCatches x = new PushedTillItCatches();
            Checks.fill(x, 3, 1, 1, 2, 3, 4, 5);
            int n = calls[k][2];
            due("copy " + calls[k][0] + " to " + calls[k][1], x.copy(3, calls[k][0], 3, calls[k][1], n), n);
            for (int i = 0; i < 5; i++) {
                due("element(3, " + i + ")", x.element(3, i), then[k][i]);
            }
        }
    }

    /** What cost and toss refuse alike. */
    private static void readsYard(String call, java.util.function.ToIntBiFunction<PushedTillItCatches, Integer> asked) {
        for (int d : NO_SHELVES) {
            document.leavesAll(call + "(" + d + ")", Streets::busy, x -> asked.applyAsInt(x, d), -1);
        }
        for (int d : new int[] {6, 7}) {
            document.leavesAll(call + "(" + d + ")", Streets::busy, x -> asked.applyAsInt(x, d), -11);
        }
        for (int d : new int[] {1, 2, 3, 4}) {
            document.leavesAll(call + "(" + d + ")", Streets::busy, x -> asked.applyAsInt(x, d), -12);
        }
    }

    /** What a call answers of a KIND with the FIGURES 0, 1, 8, 9, on the first and on the last SHELF. */
    private static void ofKind(boolean cost, int kind, int... due) {
        int[] figures = {0, 1, 8, 9};
        for (int k = 0; k < 4; k++) {
            PushedTillItCatches x = new PushedTillItCatches();
            for (int d = 0; d < 8; d += 7) {
                x.keep(d, 1, kind, figures[k]);
                due((cost ? "cost of " : "toss of ") + kind + figures[k], cost ? x.cost(d) : x.toss(d), due[k]);
            }
        }
    }

    private static void cost() {
        document.says(41, "-1, -11, -12 (a ROW).");
        readsYard("cost", (x, d) -> x.cost(d));
        document.leavesAll("cost(0)", Streets::busy, x -> x.cost(0), 16);
        document.says(41, "COST of the one on SHELF d: YARD 2; DOWN FIGURE more; UP twice a DOWN's; WET 3 more");
        ofKind(true, 0, 2, 2, 2, 2);
        ofKind(true, 1, 2, 3, 10, 11);
        ofKind(true, 2, 4, 6, 20, 22);
        ofKind(true, 3, 5, 5, 5, 5);
        document.says(41, "STEEP a DOWN's and 5; ICY a WET's by 2, cut; CROSSING 1 less; CHURCH a CROSSING's and FIGURE.");
        ofKind(true, 4, 7, 8, 15, 16);
        ofKind(true, 5, 2, 2, 2, 2);
        ofKind(true, 6, 1, 1, 1, 1);
        ofKind(true, 7, 1, 2, 9, 10);
    }

    private static void toss() {
        document.says(42, "-1, -11, -12 (a ROW); -15: CROSSINGS and CHURCHES, and any with FIGURE 0, have none.");
        readsYard("toss", (x, d) -> x.toss(d));
        document.leavesAll("toss of STEEP", Streets::busy, x -> x.toss(0), 216);
        document.leavesAll("toss of a CROSSING", Streets::busy, x -> x.toss(5), -15);
        ofKind(false, 6, -15, -15, -15, -15);
        ofKind(false, 7, -15, -15, -15, -15);
        document.says(42, "The FAILURE of the one on SHELF d is thrown, and caught: its FIGURE");
        ofKind(false, 0, -15, 1, 8, 9);
        ofKind(false, 3, -15, 1, 8, 9);
        ofKind(false, 5, -15, 1, 8, 9);
        document.says(42, "of DOWN ones 100 more (UP, STEEP, too)");
        ofKind(false, 1, -15, 101, 108, 109);
        ofKind(false, 2, -15, 101, 108, 109);
        document.says(42, "of STEEP ones 200 plus their COST, in place of all that (FIGURE, too)");
        ofKind(false, 4, -15, 208, 215, 216);
    }
}
