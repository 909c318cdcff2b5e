import java.util.ArrayList;
import java.util.List;

/**
 * The document once more, as plainly and as slowly as it can be said: every question in mind is
 * rolled out yard by yard, without any short way. OracleTest holds the class against it.
 */
final class Oracle {
    static final long THROWS_ARGUMENT = Long.MIN_VALUE;
    static final long THROWS_STATE = Long.MIN_VALUE + 1;

    private static final int[] UNDER = {-1, 0, 1, 0, 1, 3, 0, 6};

    private static final class Pusher {
        int strength;
        int breath;
        int shoes;
        boolean pushes = true;
    }

    private static final class World {
        List<int[]> yards = new ArrayList<>();
        List<Pusher> pushers = new ArrayList<>();
        int[] figures = {8, 3, 0, 0};
        int at;
        int pace;
        boolean runs;

        World again() {
            World w = new World();
            w.yards.addAll(yards);
            for (Pusher p : pushers) {
                Pusher q = new Pusher();
                q.strength = p.strength;
                q.breath = p.breath;
                q.shoes = p.shoes;
                q.pushes = p.pushes;
                w.pushers.add(q);
            }
            w.figures = figures.clone();
            w.at = at;
            w.pace = pace;
            w.runs = runs;
            return w;
        }

        World pushedBy(int bits) {
            World w = again();
            for (int p = 0; p < w.pushers.size(); p++) {
                w.pushers.get(p).pushes = (bits & 1 << p) != 0;
            }
            return w;
        }

        World with(int what, int v) {
            World w = again();
            w.figures[what] = v;
            return w;
        }

        World standing(int where) {
            World w = again();
            w.at = where;
            w.pace = 0;
            return w;
        }

        void roll() {
            if (at == yards.size()) {
                return;
            }
            int[] yard = yards.get(at);
            int push = 0;
            for (Pusher p : pushers) {
                if (p.pushes && p.breath > 0) {
                    int grip = grip(yard[0], yard[1]);
                    if (grip > 0 && p.shoes == 1) {
                        grip = 10;
                    }
                    push += p.strength * grip / 10;
                    p.breath--;
                }
            }
            pace += gives(yard[0], yard[1]) + push / figures[0] - 1;
            if (pace > 24) {
                pace = 24;
            }
            if (pace < 0) {
                pace = 0;
            }
            if (pace > 0) {
                at++;
            }
        }

        World rolled(int n) {
            World w = again();
            for (int k = 0; k < n; k++) {
                w.roll();
            }
            return w;
        }

        int low(int gear) {
            return new int[] {4, 6, 11}[gear - 1] + figures[1] / 3 - figures[3] / 4;
        }

        static int high(int gear) {
            return new int[] {7, 12, 20}[gear - 1];
        }

        int comes(int gear, int p) {
            if (figures[2] >= 6) {
                return 4;
            }
            if (p < low(gear)) {
                return 0;
            }
            if (p > high(gear)) {
                return 2;
            }
            return p == low(gear) ? 1 : 3;
        }

        int gearNow() {
            for (int gear = 1; gear <= 3; gear++) {
                if (comes(gear, pace) == 3) {
                    return gear;
                }
            }
            return -4;
        }

        int firstCaught() {
            World w = again();
            for (int n = 0; n <= 40; n++) {
                if (w.gearNow() > 0) {
                    return n;
                }
                w.roll();
            }
            return -4;
        }

        int wait(int minutes) {
            pace = 0;
            figures[2] = Math.max(0, figures[2] - minutes / 5);
            for (Pusher p : pushers) {
                p.breath = Math.min(40, p.breath + minutes / 2);
            }
            return figures[2];
        }

        int breaths() {
            return pushers.stream().mapToInt(p -> p.breath).sum();
        }
    }

    static int gives(int kind, int figure) {
        switch (kind) {
            case 0: return 0;
            case 1: return 1 + figure / 3;
            case 2: return -gives(UNDER[2], figure);
            case 4: return 2 * gives(UNDER[4], figure);
            case 5: return gives(UNDER[5], figure) + 1;
            case 7: return gives(UNDER[7], figure) - 1;
            default: return gives(UNDER[kind], figure);
        }
    }

    static int grip(int kind, int figure) {
        switch (kind) {
            case 0: return 10;
            case 2: return grip(UNDER[2], figure) - figure / 2;
            case 3: return grip(UNDER[3], figure) - 5;
            case 5: return grip(UNDER[5], figure) / 5;
            case 6: return 0;
            default: return grip(UNDER[kind], figure);
        }
    }

    static int cost(int kind, int figure) {
        switch (kind) {
            case 0: return 2;
            case 1: return cost(UNDER[1], figure) + figure;
            case 2: return cost(UNDER[2], figure) * 2;
            case 3: return cost(UNDER[3], figure) + 3;
            case 4: return cost(UNDER[4], figure) + 5;
            case 5: return cost(UNDER[5], figure) / 2;
            case 6: return cost(UNDER[6], figure) - 1;
            default: return cost(UNDER[7], figure) + figure;
        }
    }

    private World world = new World();
    private World image;
    /** Nothing: null; a YARD's KIND: its two figures; a ROW: its SORT and elements, as a list. */
    private final int[][] kinds = new int[8][];
    private final int[][] rows = new int[8][];
    private final int[] sorts = new int[8];

    // ---- the street as told

    long street(int d) {
        long refusal = noRow(d);
        if (refusal != 0) {
            return refusal;
        }
        if (sorts[d] != 0) {
            return -12;
        }
        StringBuilder text = new StringBuilder();
        for (int b : rows[d]) {
            text.append((char) (b & 255));
        }
        int place = 0;
        List<Integer> starts = new ArrayList<>();
        do {
            starts.add(place);
            String shape = place < text.length() ? shapeOf(text.charAt(place)) : "";
            if (shape.isEmpty()) {
                return -1000 - place;
            }
            for (int k = 0; k < shape.length(); k++, place++) {
                if (place == text.length()) {
                    return -1000 - place;
                }
                char c = text.charAt(place);
                boolean fits = shape.charAt(k) == '9' ? c >= '0' && c <= '9' : c == shape.charAt(k);
                if (!fits) {
                    return -1000 - place;
                }
            }
        } while (place < text.length());
        World then = world.again();
        for (int start : starts) {
            if (!does(then, text.substring(start, text.indexOf(";", start)))) {
                return -2000 - start;
            }
        }
        world = then;
        return starts.size();
    }

    private static String shapeOf(char letter) {
        switch (letter) {
            case 'y': return "y99;";
            case 'p': return "p99999;";
            case 'w': return "w99;";
            case 'c': return "c9;";
            case 'g': return "g9;";
            case 'h': return "h9;";
            case 'r': return "r99;";
            case 't': return "t9;";
            case 'm': return "m99;";
            default: return "";
        }
    }

    private static boolean does(World w, String statement) {
        int v = Integer.parseInt(statement.substring(1));
        switch (statement.charAt(0)) {
            case 'y':
                if (v > 79 || w.yards.size() == 20) {
                    return false;
                }
                w.yards.add(new int[] {v / 10, v % 10});
                return true;
            case 'p':
                Pusher p = new Pusher();
                p.strength = v / 1000;
                p.breath = v / 10 % 100;
                p.shoes = v % 10;
                if (p.strength > 20 || p.breath > 40 || p.shoes > 1 || w.pushers.size() == 5) {
                    return false;
                }
                w.pushers.add(p);
                return true;
            case 'w':
                w.figures[0] = v;
                return v >= 1 && v <= 20;
            case 'c':
                w.figures[1] = v;
                return true;
            case 'g':
                w.figures[2] = v;
                return true;
            case 'h':
                w.figures[3] = v;
                return true;
            case 'r':
                return rolls(w, v) >= 0;
            case 't':
                return tries(w, v) >= 0;
            default:
                return waits(w, v) >= 0;
        }
    }

    private static int rolls(World w, int n) {
        if (n < 1 || n > 20) {
            return -1;
        }
        if (w.runs || w.at == w.yards.size()) {
            return -3;
        }
        for (int k = 0; k < n; k++) {
            w.roll();
        }
        return w.pace;
    }

    private static int tries(World w, int gear) {
        if (gear < 1 || gear > 3) {
            return -1;
        }
        if (w.runs) {
            return -3;
        }
        int came = w.comes(gear, w.pace);
        w.runs = came == 3;
        w.pace = came == 2 ? 0 : came == 0 || came == 1 ? w.pace / 2 : w.pace;
        if (came != 3 && w.figures[2] < 9) {
            w.figures[2]++;
        }
        return came;
    }

    private static int waits(World w, int minutes) {
        if (minutes < 1 || minutes > 60) {
            return -1;
        }
        return w.runs ? -3 : w.wait(minutes);
    }

    long yard(int y, int what) {
        if (y < 0 || y >= world.yards.size() || what < 0 || what > 3) {
            return -1;
        }
        int[] yard = world.yards.get(y);
        return new int[] {yard[0], yard[1], gives(yard[0], yard[1]) + 10, grip(yard[0], yard[1])}[what];
    }

    long pusher(int p, int what) {
        if (p < 0 || p >= world.pushers.size() || what < 0 || what > 2) {
            return -1;
        }
        Pusher one = world.pushers.get(p);
        return what == 0 ? one.strength : what == 1 ? one.breath : one.shoes;
    }

    long lays(int d) {
        long refusal = noKind(d);
        if (refusal != 0) {
            return refusal;
        }
        if (world.yards.size() == 20) {
            return -2;
        }
        world.yards.add(kinds[d]);
        return world.yards.size() - 1;
    }

    long set(int what, int v) {
        if (what < 0 || what > 3 || v < (what == 0 ? 1 : 0) || v > (what == 0 ? 20 : 9)) {
            return -1;
        }
        int before = world.figures[what];
        world.figures[what] = v;
        return before;
    }

    long parks(int at) {
        if (at < 0 || at > world.yards.size()) {
            return -1;
        }
        int before = world.at;
        world = world.standing(at);
        world.runs = false;
        return before;
    }

    long rolls(int n) {
        return rolls(world, n);
    }

    long tries(int gear) {
        return tries(world, gear);
    }

    long waits(int minutes) {
        return waits(world, minutes);
    }

    // ---- in mind

    long behind(int n, int what) {
        if (n < 0 || n > 40 || what < 0 || what > 2) {
            return -1;
        }
        World w = world.rolled(n);
        return world.runs ? -3 : what == 0 ? w.pace : what == 1 ? w.at : w.breaths();
    }

    long catches(int what) {
        if (what < 0 || what > 2) {
            return -1;
        }
        if (world.runs) {
            return -3;
        }
        int n = world.firstCaught();
        if (n < 0) {
            return -4;
        }
        World w = world.rolled(n);
        return what == 0 ? n : what == 1 ? w.gearNow() : w.pace;
    }

    long inGear(int gear) {
        if (gear < 1 || gear > 3) {
            return -1;
        }
        if (world.runs) {
            return -3;
        }
        for (int n = 0; n <= 40; n++) {
            World w = world.rolled(n);
            if (w.comes(gear, w.pace) == 3) {
                return n;
            }
        }
        return -4;
    }

    long curve(int gear, int what) {
        if (gear < 1 || gear > 3 || what < 0 || what > 2) {
            return -1;
        }
        int caught = 0;
        for (int p = 0; p <= 24; p++) {
            caught += world.comes(gear, p) == 3 ? 1 : 0;
        }
        return what == 0 ? world.low(gear) : what == 1 ? World.high(gear) : caught;
    }

    long who() {
        if (world.runs) {
            return -3;
        }
        for (int size = 0; size <= world.pushers.size(); size++) {
            for (int bits = 0; bits < 1 << world.pushers.size(); bits++) {
                if (Integer.bitCount(bits) == size && world.pushedBy(bits).firstCaught() >= 0) {
                    return bits;
                }
            }
        }
        return -4;
    }

    long leaveOne() {
        if (world.runs) {
            return -3;
        }
        for (int strength = 20; strength >= 0; strength--) {
            for (int p = 0; p < world.pushers.size(); p++) {
                boolean it = world.pushers.get(p).strength == strength;
                if (it && world.pushedBy(31 - (1 << p)).firstCaught() >= 0) {
                    return p;
                }
            }
        }
        return -4;
    }

    long alone() {
        if (world.runs) {
            return -3;
        }
        for (int n = 0; n <= 40; n++) {
            if (world.rolled(n).pushedBy(0).firstCaught() >= 0) {
                return n;
            }
        }
        return -4;
    }

    long pushUp(int what) {
        if (what < 0 || what > 1) {
            return -1;
        }
        if (world.runs) {
            return -3;
        }
        World w = world.again();
        for (int b = 0; b <= world.at; b++) {
            if (b > 0) {
                if (w.breaths() == 0) {
                    return -4;
                }
                for (Pusher p : w.pushers) {
                    p.breath -= p.breath > 0 ? 1 : 0;
                }
                w = w.standing(w.at - 1);
            }
            if (w.firstCaught() >= 0) {
                return what == 0 ? b : w.firstCaught();
            }
        }
        return -4;
    }

    long howLong() {
        if (world.runs) {
            return -3;
        }
        for (int m = 0; m <= 60; m++) {
            World w = world.again();
            if (m > 0) {
                w.wait(m);
            }
            if (w.firstCaught() >= 0) {
                return m;
            }
        }
        return -4;
    }

    long hand() {
        if (world.runs) {
            return -3;
        }
        for (int hand = 0; hand <= 9; hand++) {
            if (world.with(3, hand).firstCaught() >= 0) {
                return hand;
            }
        }
        return -4;
    }

    long showing() {
        if (world.runs) {
            return -3;
        }
        int shown = world.with(3, 9).firstCaught();
        int now = world.firstCaught();
        return shown < 0 ? -4 : (now < 0 ? 41 : now) - shown;
    }

    long park() {
        for (int n = 0; n <= 40; n++) {
            for (int at = 0; at <= world.yards.size(); at++) {
                if (world.pushedBy(0).standing(at).firstCaught() == n) {
                    return at;
                }
            }
        }
        return -4;
    }

    long downTo() {
        if (world.runs) {
            return -3;
        }
        int greatest = 0;
        for (int n = 0; n <= 40; n++) {
            greatest = Math.max(greatest, world.rolled(n).pace);
        }
        return greatest;
    }

    long safe() {
        if (world.runs) {
            return -3;
        }
        World w = world.pushedBy(0);
        for (int n = 0; n < 100; n++) {
            int before = w.at;
            w.roll();
            if (w.at > before && world.yards.get(before)[0] >= 6) {
                return 0;
            }
        }
        return 1;
    }

    // ---- coughs

    long odds(int gear, int pace, int n, int part) {
        if (gear < 1 || gear > 3 || pace < 0 || pace > 24 || n < 0 || n > 8 || part < 0 || part > 1) {
            return -1000000001L;
        }
        int tenths = pace < world.low(gear) || pace > World.high(gear) ? 0 : Math.min(9, pace - world.low(gear));
        long above = 0;
        long below = 1;
        for (int k = 0; k < n; k++) {
            above = above * 10 + (below - above) * tenths;
            below *= 10;
        }
        for (int prime : new int[] {2, 5}) {
            while (above % prime == 0 && below % prime == 0) {
                above /= prime;
                below /= prime;
            }
        }
        return part == 0 ? above : below;
    }

    private static boolean couldBe(int cause, int[] coughs) {
        for (int i = 0; i < coughs.length; i++) {
            boolean fits = true;
            if (cause == 1) {
                fits = coughs[i] != 2 || i > 0 && coughs[i - 1] == 1;
            } else if (cause == 2) {
                fits = coughs[i] != 2 || i > 1;
            } else {
                fits = coughs[i] == 0;
            }
            if (!fits) {
                return false;
            }
        }
        return true;
    }

    private static int causes(int[] coughs) {
        return (couldBe(1, coughs) ? 1 : 0) + (couldBe(2, coughs) ? 2 : 0) + (couldBe(4, coughs) ? 4 : 0);
    }

    long what(int d) {
        long refusal = noRowWithin(d, 2);
        return refusal != 0 ? refusal : causes(rows[d]);
    }

    long tryNext(int d) {
        long refusal = noRowWithin(d, 2);
        if (refusal != 0) {
            return refusal;
        }
        int before = Integer.bitCount(causes(rows[d]));
        int best = 0;
        int fewest = 99;
        for (int next = 0; next < 3; next++) {
            int[] longer = java.util.Arrays.copyOf(rows[d], rows[d].length + 1);
            longer[rows[d].length] = next;
            if (Integer.bitCount(causes(longer)) < fewest) {
                fewest = Integer.bitCount(causes(longer));
                best = next;
            }
        }
        return before < 2 ? -4 : best;
    }

    long gettingIn(int gear) {
        if (gear < 1 || gear > 3) {
            return -1;
        }
        if (world.runs) {
            return -3;
        }
        World w = world.again();
        int in = 0;
        for (int n = 0; n <= 40; n++) {
            if (w.comes(gear, w.pace) == 3) {
                return in;
            }
            if (w.at < w.yards.size() && in < w.pushers.size()) {
                w.pushers.get(in).pushes = false;
                w.figures[0] = Math.min(20, w.figures[0] + 1);
                in++;
            }
            w.roll();
        }
        return -4;
    }

    // ---- marks, told paces

    private int gearsThatLock(int d, int n) {
        int gears = 0;
        for (int gear = 1; gear <= 3; gear++) {
            boolean all = true;
            for (int i = 0; i < n; i++) {
                all &= rows[d][i] > World.high(gear);
            }
            gears += all ? 1 : 0;
        }
        return gears;
    }

    long marks(int d, int what) {
        if (what < 0 || what > 1) {
            return -1;
        }
        long refusal = noRowWithin(d, 24);
        if (refusal != 0) {
            return refusal;
        }
        int gears = gearsThatLock(d, rows[d].length);
        // A PACE above a GEAR's HIGH is above those of the lesser GEARS: the least is the first.
        return what == 0 ? gears : gears > 0 ? 1 : -4;
    }

    long forged(int d) {
        long refusal = noRowWithin(d, 24);
        if (refusal != 0) {
            return refusal;
        }
        for (int i = 0; i < rows[d].length; i++) {
            if (gearsThatLock(d, i + 1) == 0) {
                return i;
            }
        }
        return -4;
    }

    long judge(int d) {
        long refusal = noRow(d);
        if (refusal != 0) {
            return refusal;
        }
        if (world.runs) {
            return -3;
        }
        int least = sorts[d] == 0 ? Byte.MIN_VALUE : sorts[d] == 1 ? Short.MIN_VALUE : Integer.MIN_VALUE;
        for (int i = 0; i < rows[d].length; i++) {
            if (rows[d][i] == least) {
                continue;
            }
            if (i > 40 || rows[d][i] != world.rolled(i).pace) {
                return i;
            }
        }
        return -4;
    }

    long mornings(int n, int z, int what) {
        if (n < 1 || n > 20 || what < 0 || what > 1) {
            return -1;
        }
        if (world.runs) {
            return -3;
        }
        int caught = 0;
        int yards = 0;
        int seed = z;
        for (int k = 0; k < n; k++) {
            World w = world.again();
            seed = (int) (seed * 1103515245L + 12345L);
            w.figures[1] = (int) ((seed & 0x7fffffffL) / 65536 % 10);
            for (Pusher p : w.pushers) {
                seed = (int) (seed * 1103515245L + 12345L);
                p.breath = (int) ((seed & 0x7fffffffL) / 65536 % 41);
            }
            int till = w.firstCaught();
            caught += till < 0 ? 0 : 1;
            yards += Math.max(0, till);
        }
        return what == 0 ? caught : yards;
    }

    // ---- the image, what is told

    long image() {
        image = world.again();
        return world.at;
    }

    long restore() {
        if (image == null) {
            return -3;
        }
        world = image.again();
        return world.at;
    }

    long count(int what) {
        int strengths = world.pushers.stream().mapToInt(p -> p.strength).sum();
        switch (what) {
            case 0: return world.yards.size();
            case 1: return world.pushers.size();
            case 2: return world.at;
            case 3: return world.pace;
            case 4: return world.runs ? 1 : 0;
            case 5: return world.figures[2];
            case 6: return world.breaths();
            case 7: return strengths;
            default: return -1;
        }
    }

    // ---- shelves

    private long noShelf(int d) {
        return d < 0 || d > 7 ? -1 : kinds[d] == null && rows[d] == null ? -11 : 0;
    }

    private long noRow(int d) {
        return noShelf(d) != 0 ? noShelf(d) : rows[d] == null ? -12 : 0;
    }

    private long noKind(int d) {
        return noShelf(d) != 0 ? noShelf(d) : kinds[d] == null ? -12 : 0;
    }

    private long noRowWithin(int d, int most) {
        if (noRow(d) != 0) {
            return noRow(d);
        }
        for (int v : rows[d]) {
            if (v < 0 || v > most) {
                return -13;
            }
        }
        return 0;
    }

    long keep(int d, int what, int k, int figure) {
        if (d < 0 || d > 7 || what < 0 || what > 1 || what == 1 && (k < 0 || k > 7 || figure < 0 || figure > 9)) {
            return -1;
        }
        rows[d] = null;
        kinds[d] = what == 0 ? null : new int[] {k, figure};
        return 0;
    }

    long row(int d, int sort, int n) {
        if (d < 0 || d > 7 || sort < 0 || sort > 2 || n > 100) {
            return -1;
        }
        if (n < 0) {
            return -14;
        }
        kinds[d] = null;
        rows[d] = new int[n];
        sorts[d] = sort;
        return 0;
    }

    long put(int d, int i, int v) {
        if (noRow(d) != 0) {
            return noRow(d);
        }
        if (i < 0 || i >= rows[d].length) {
            return -13;
        }
        int unused = sorts[d] == 0 ? 24 : sorts[d] == 1 ? 16 : 0;
        rows[d][i] = v << unused >> unused;
        return 0;
    }

    long element(int d, int i) {
        if (d < 0 || d > 7) {
            return THROWS_ARGUMENT;
        }
        if (rows[d] == null || i < 0 || i >= rows[d].length) {
            return THROWS_STATE;
        }
        return rows[d][i];
    }

    long copy(int d, int i, int e, int j, int n) {
        for (long refusal : new long[] {-1, -11}) {
            if (noShelf(d) == refusal || noShelf(e) == refusal) {
                return refusal;
            }
        }
        if (rows[d] == null || rows[e] == null || sorts[d] != sorts[e]) {
            return -12;
        }
        boolean there = i >= 0 && j >= 0 && n >= 0 && (long) i + n <= rows[d].length && (long) j + n <= rows[e].length;
        if (!there) {
            return -13;
        }
        int[] before = rows[d].clone();
        for (int k = 0; k < n; k++) {
            rows[e][j + k] = before[i + k];
        }
        return n;
    }

    long cost(int d) {
        return noKind(d) != 0 ? noKind(d) : cost(kinds[d][0], kinds[d][1]);
    }

    long toss(int d) {
        if (noKind(d) != 0) {
            return noKind(d);
        }
        int kind = kinds[d][0];
        int figure = kinds[d][1];
        if (kind >= 6 || figure == 0) {
            return -15;
        }
        return kind == 4 ? 200 + cost(kind, figure) : kind == 1 || kind == 2 ? 100 + figure : figure;
    }
}
