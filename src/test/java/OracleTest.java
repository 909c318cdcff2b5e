import java.util.Random;

/** Runs of random calls, each answer held against the Oracle's. The seeds are fixed. */
public final class OracleTest {
    private static final int RUNS = 400;
    private static final int CALLS = 512;
    private static final int[] WILD = {-1, Integer.MIN_VALUE, Integer.MAX_VALUE, 8, 9, 10, 21, 41, 61, 101, -2};
    private static final String LETTERS = "yyyyyyppwcghrtm";

    private final Random random;
    private final PushedTillItCatches x = new PushedTillItCatches();
    private final Oracle oracle = new Oracle();
    private final Checks checks;
    private final int run;
    private int calls;

    private OracleTest(int run, Checks checks) {
        this.run = run;
        this.checks = checks;
        this.random = new Random(run);
    }

    public static void main(String[] args) {
        Checks checks = new Checks("OracleTest");
        for (int run = 0; run < RUNS; run++) {
            new OracleTest(run, checks).go();
        }
        checks.end();
    }

    private void go() {
        tellText(0, beginning());
        if (run % 4 == 3) {
            tellText(0, yards(inside(9, 14)));
        }
        while (calls < CALLS) {
            oneCall();
        }
    }

    /** A number of a range; now and then one that is out of it. */
    private int from(int least, int most) {
        return random.nextInt(40) == 0 ? WILD[random.nextInt(WILD.length)] : inside(least, most);
    }

    private int inside(int least, int most) {
        return least + random.nextInt(most - least + 1);
    }

    private void same(String call, long got, long want) {
        calls++;
        checks.due("run " + run + ", call " + calls + ": " + call, got, want);
    }

    private String yards(int howMany) {
        StringBuilder text = new StringBuilder();
        for (int k = 0; k < howMany; k++) {
            text.append('y').append(inside(0, 7)).append(inside(0, 9)).append(';');
        }
        return text.toString();
    }

    private String beginning() {
        int yards = inside(0, 9);
        StringBuilder text = new StringBuilder(yards(yards));
        int pushers = inside(yards == 0 ? 1 : 0, 5);
        for (int k = 0; k < pushers; k++) {
            text.append('p').append(two(inside(0, 20))).append(two(inside(0, 40))).append(inside(0, 1)).append(';');
        }
        return text.toString();
    }

    private static String two(int n) {
        return "" + n / 10 % 10 + n % 10;
    }

    private String anyStatement() {
        char letter = LETTERS.charAt(random.nextInt(LETTERS.length()));
        switch (letter) {
            case 'y': return "y" + inside(0, random.nextInt(12) == 0 ? 9 : 7) + inside(0, 9) + ";";
            case 'p': return "p" + two(inside(0, 20)) + two(inside(0, 41)) + inside(0, 1) + ";";
            case 'w': return "w" + two(inside(random.nextInt(9) == 0 ? 0 : 1, 20)) + ";";
            case 'r': return "r" + two(inside(1, random.nextInt(9) == 0 ? 21 : 3)) + ";";
            case 't': return "t" + inside(random.nextInt(9) == 0 ? 0 : 1, 3) + ";";
            case 'm': return "m" + two(inside(1, 61)) + ";";
            default: return "" + letter + inside(0, 9) + ";";
        }
    }

    private String anyText() {
        StringBuilder text = new StringBuilder();
        int statements = inside(0, 6);
        for (int k = 0; k < statements; k++) {
            text.append(anyStatement());
        }
        if (text.length() > 0 && random.nextInt(5) == 0) {
            text.setCharAt(random.nextInt(text.length()), ";y0123cr x\u00ff".charAt(random.nextInt(11)));
        }
        if (random.nextInt(8) == 0) {
            text.setLength(random.nextInt(text.length() + 1));
        }
        return text.toString();
    }

    private void tellText(int d, String text) {
        int[] bytes = text.chars().toArray();
        fill(d, 0, bytes);
        same("street(" + d + ") of " + text, x.street(d), oracle.street(d));
    }

    private void fill(int d, int sort, int... elements) {
        same("row(" + d + ", " + sort + ", n)", x.row(d, sort, elements.length), oracle.row(d, sort, elements.length));
        for (int i = 0; i < elements.length; i++) {
            same("put(" + d + ", " + i + ", v)", x.put(d, i, elements[i]), oracle.put(d, i, elements[i]));
        }
    }

    private void oneCall() {
        switch (random.nextInt(7)) {
            case 0: changes(); break;
            case 1: asksInMind(); break;
            case 2: asksMore(); break;
            case 3: asksRows(); break;
            case 4: shelves(); break;
            case 5: tellsRows(); break;
            default: state(); break;
        }
    }

    private void changes() {
        int a = random.nextInt(12);
        if (a == 0) {
            int d = from(0, 7);
            same("street(" + d + ")", x.street(d), oracle.street(d));
        } else if (a == 1) {
            int d = from(0, 7);
            same("lays(" + d + ")", x.lays(d), oracle.lays(d));
        } else if (a <= 3) {
            int what = from(0, 3);
            int v = from(what == 0 ? 1 : 0, what == 0 ? 20 : what == 2 ? 6 : 9);
            same("set(" + what + ", " + v + ")", x.set(what, v), oracle.set(what, v));
        } else if (a <= 5) {
            int at = from(0, Math.max(0, x.count(0)));
            same("parks(" + at + ")", x.parks(at), oracle.parks(at));
        } else if (a <= 7) {
            int n = random.nextInt(6) == 0 ? inside(19, 21) : from(1, 3);
            same("rolls(" + n + ")", x.rolls(n), oracle.rolls(n));
        } else if (a == 8) {
            int gear = from(1, 3);
            same("tries(" + gear + ")", x.tries(gear), oracle.tries(gear));
        } else if (a == 9) {
            int minutes = from(1, 60);
            same("waits(" + minutes + ")", x.waits(minutes), oracle.waits(minutes));
        } else if (a == 10) {
            same("image()", x.image(), oracle.image());
        } else {
            same("restore()", x.restore(), oracle.restore());
        }
    }

    private void asksInMind() {
        int n = from(0, 40);
        int what = from(0, 2);
        int gear = from(1, 3);
        switch (random.nextInt(7)) {
            case 0: same("behind(" + n + ", " + what + ")", x.behind(n, what), oracle.behind(n, what)); break;
            case 1: same("catches(" + what + ")", x.catches(what), oracle.catches(what)); break;
            case 2: same("inGear(" + gear + ")", x.inGear(gear), oracle.inGear(gear)); break;
            case 3: same("curve(" + gear + ", " + what + ")", x.curve(gear, what), oracle.curve(gear, what)); break;
            case 4: same("pushUp(" + what + ")", x.pushUp(what), oracle.pushUp(what)); break;
            case 5: same("gettingIn(" + gear + ")", x.gettingIn(gear), oracle.gettingIn(gear)); break;
            default:
                int m = from(1, 20);
                int z = random.nextInt();
                String call = "mornings(" + m + ", " + z + ", " + what + ")";
                same(call, x.mornings(m, z, what), oracle.mornings(m, z, what));
        }
    }

    private void asksMore() {
        switch (random.nextInt(10)) {
            case 0: same("who()", x.who(), oracle.who()); break;
            case 1: same("leaveOne()", x.leaveOne(), oracle.leaveOne()); break;
            case 2: same("alone()", x.alone(), oracle.alone()); break;
            case 3: same("howLong()", x.howLong(), oracle.howLong()); break;
            case 4: same("hand()", x.hand(), oracle.hand()); break;
            case 5: same("showing()", x.showing(), oracle.showing()); break;
            case 6: same("park()", x.park(), oracle.park()); break;
            case 7: same("downTo()", x.downTo(), oracle.downTo()); break;
            case 8: same("safe()", x.safe(), oracle.safe()); break;
            default:
                int gear = from(1, 3);
                int pace = from(0, 24);
                int n = from(0, 8);
                int part = from(0, 1);
                String call = "odds(" + gear + ", " + pace + ", " + n + ", " + part + ")";
                same(call, x.odds(gear, pace, n, part), oracle.odds(gear, pace, n, part));
        }
    }

    private void asksRows() {
        int d = from(0, 7);
        int what = from(0, 1);
        switch (random.nextInt(5)) {
            case 0: same("what(" + d + ")", x.what(d), oracle.what(d)); break;
            case 1: same("tryNext(" + d + ")", x.tryNext(d), oracle.tryNext(d)); break;
            case 2: same("marks(" + d + ", " + what + ")", x.marks(d, what), oracle.marks(d, what)); break;
            case 3: same("forged(" + d + ")", x.forged(d), oracle.forged(d)); break;
            default: same("judge(" + d + ")", x.judge(d), oracle.judge(d)); break;
        }
    }

    private void shelves() {
        int d = from(0, 7);
        int i = random.nextInt(6) == 0 ? inside(98, 101) : from(0, 8);
        int v = random.nextInt();
        switch (random.nextInt(8)) {
            case 0:
                int what = from(0, 1);
                int k = from(0, 7);
                int figure = from(0, 9);
                same("keep(" + d + ", " + what + ", " + k + ", " + figure + ")",
                        x.keep(d, what, k, figure), oracle.keep(d, what, k, figure));
                break;
            case 1:
                int sort = from(0, 2);
                same("row(" + d + ", " + sort + ", " + i + ")", x.row(d, sort, i), oracle.row(d, sort, i));
                break;
            case 2:
                same("put(" + d + ", " + i + ", " + v + ")", x.put(d, i, v), oracle.put(d, i, v));
                break;
            case 3: case 4:
                same("element(" + d + ", " + i + ")", elementOf(d, i), oracle.element(d, i));
                break;
            case 5:
                int e = from(0, 7);
                int j = from(0, 4);
                int n = from(0, 5);
                same("copy(" + d + ", " + i + ", " + e + ", " + j + ", " + n + ")",
                        x.copy(d, i, e, j, n), oracle.copy(d, i, e, j, n));
                break;
            case 6: same("cost(" + d + ")", x.cost(d), oracle.cost(d)); break;
            default: same("toss(" + d + ")", x.toss(d), oracle.toss(d)); break;
        }
    }

    private long elementOf(int d, int i) {
        try {
            return x.element(d, i);
        } catch (IllegalArgumentException refused) {
            return Oracle.THROWS_ARGUMENT;
        } catch (IllegalStateException refused) {
            return Oracle.THROWS_STATE;
        }
    }

    /** Fills a row with what one of the calls that read rows is likely to have an answer for. */
    private void tellsRows() {
        int d = inside(0, 7);
        int sort = inside(0, 2);
        int n = inside(0, 6);
        switch (random.nextInt(4)) {
            case 0:
                tellText(d, anyText());
                break;
            case 1:
                fill(d, sort, random.ints(n, 0, random.nextInt(9) == 0 ? 4 : 3).toArray());
                same("what(" + d + ")", x.what(d), oracle.what(d));
                same("tryNext(" + d + ")", x.tryNext(d), oracle.tryNext(d));
                break;
            case 2:
                fill(d, sort, random.ints(n, random.nextInt(9) == 0 ? -1 : 6, 25).toArray());
                same("marks(" + d + ", 0)", x.marks(d, 0), oracle.marks(d, 0));
                same("marks(" + d + ", 1)", x.marks(d, 1), oracle.marks(d, 1));
                same("forged(" + d + ")", x.forged(d), oracle.forged(d));
                break;
            default:
                fill(d, sort, toldPaces(sort, random.nextInt(4) == 0 ? inside(39, 60) : n));
                same("judge(" + d + ")", x.judge(d), oracle.judge(d));
        }
    }

    /** PACES as they would be, some of them skipped or not so; beyond 40 YARDS more are skipped. */
    private int[] toldPaces(int sort, int n) {
        int skipped = sort == 0 ? -128 : sort == 1 ? -32768 : Integer.MIN_VALUE;
        int skippedBeyond = inside(0, 20);
        int[] paces = new int[n];
        for (int i = 0; i < n; i++) {
            boolean isSkipped = i > 40 && i <= 40 + skippedBeyond;
            paces[i] = isSkipped ? skipped : (int) oracle.behind(Math.min(i, 40), 0);
        }
        if (n > 0 && random.nextInt(2) == 0) {
            paces[random.nextInt(n)] = skipped;
            paces[random.nextInt(n)] += random.nextInt(2);
        }
        return paces;
    }

    private void state() {
        int what = from(0, 7);
        int y = from(0, 9);
        int of = from(0, 3);
        switch (random.nextInt(3)) {
            case 0: same("yard(" + y + ", " + of + ")", x.yard(y, of), oracle.yard(y, of)); break;
            case 1: same("pusher(" + y + ", " + of + ")", x.pusher(y, of), oracle.pusher(y, of)); break;
            default: same("count(" + what + ")", x.count(what), oracle.count(what)); break;
        }
    }
}
