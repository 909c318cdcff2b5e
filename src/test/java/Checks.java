/** Counts answers that are not the ones that are due, and helps to fill shelves. */
final class Checks {
    private static final int MOST_PRINTED = 40;

    private final String name;
    private int done;
    private int wrong;

    Checks(String name) {
        this.name = name;
    }

    void due(String call, long got, long want) {
        done++;
        if (got != want) {
            wrong++;
            if (wrong <= MOST_PRINTED) {
                System.out.println(name + ": " + call + " answered " + got + ", due is " + want);
            }
        }
    }

    void holds(String what, boolean isSo) {
        due(what + " (1 it is so)", isSo ? 1 : 0, 1);
    }

    void end() {
        System.out.println(name + ": " + done + " checks, " + wrong + " wrong");
        if (wrong != 0) {
            System.exit(1);
        }
    }

    static void fill(PushedTillItCatches x, int d, int sort, int... elements) {
        x.row(d, sort, elements.length);
        for (int i = 0; i < elements.length; i++) {
            x.put(d, i, elements[i]);
        }
    }

    static int tell(PushedTillItCatches x, int d, String text) {
        fill(x, d, 0, text.chars().toArray());
        return x.street(d);
    }

    /** A new object on which a text has been told, however long, by SHELF 7, which holds nothing then. */
    static PushedTillItCatches told(String text) {
        PushedTillItCatches x = new PushedTillItCatches();
        for (String statement : text.split(";")) {
            if (!statement.isEmpty() && tell(x, 7, statement + ";") != 1) {
                throw new IllegalArgumentException("a test's own text is faulty: " + statement + " in " + text);
            }
        }
        x.keep(7, 0, 0, 0);
        return x;
    }

    /** All that the calls of promises 3, 4, 14 and 35 tell, as one text. */
    static String stateOf(PushedTillItCatches x) {
        StringBuilder state = new StringBuilder();
        for (int what = 0; what < 8; what++) {
            state.append(x.count(what)).append(' ');
        }
        for (int y = 0; y < x.count(0); y++) {
            state.append(x.yard(y, 0)).append(x.yard(y, 1)).append(' ');
        }
        for (int p = 0; p < x.count(1); p++) {
            state.append(x.pusher(p, 0)).append('/').append(x.pusher(p, 1)).append('/');
            state.append(x.pusher(p, 2)).append(' ');
        }
        state.append(x.curve(1, 0));
        return state.toString();
    }

    /** All that any call can tell of an object, SHELVES and THE IMAGE too; it is changed by that. */
    static String everythingOf(PushedTillItCatches x) {
        StringBuilder all = new StringBuilder();
        all.append(stateOf(x)).append(figuresOf(x));
        for (int d = 0; d < 8; d++) {
            all.append("| ").append(shelfOf(x, d));
        }
        all.append("image ").append(x.restore()).append(' ');
        return all.append(stateOf(x)).append(figuresOf(x)).toString();
    }

    /** WEIGHT, COLD, GAS, HAND. */
    private static String figuresOf(PushedTillItCatches x) {
        StringBuilder figures = new StringBuilder(" figures");
        for (int what = 0; what < 4; what++) {
            int v = x.set(what, 1);
            x.set(what, v);
            figures.append(' ').append(v);
        }
        return figures.append(' ').toString();
    }

    private static String shelfOf(PushedTillItCatches x, int d) {
        StringBuilder shelf = new StringBuilder();
        // Of two rows side by side the last number tells whether they are of one SORT.
        shelf.append(x.cost(d)).append(' ').append(x.toss(d)).append(' ').append(x.copy(d, 0, (d + 1) % 8, 0, 0));
        int size = 0;
        while (x.cost(d) == -12 && thrownBy(x, d, size) == null) {
            shelf.append(' ').append(x.element(d, size));
            size++;
        }
        if (size > 0) {
            x.put(d, 0, 70000);
            shelf.append(" sort ").append(x.element(d, 0));
        }
        return shelf.append(' ').toString();
    }

    /** What element throws; null, if it answers. */
    static Class<?> thrownBy(PushedTillItCatches x, int d, int i) {
        try {
            x.element(d, i);
            return null;
        } catch (RuntimeException thrown) {
            return thrown.getClass();
        }
    }
}
