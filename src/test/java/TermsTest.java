import java.io.IOException;
import java.math.BigInteger;
import java.util.function.ToIntFunction;

/** What the document says beside its boundaries, held against what other calls tell of the same. */
public final class TermsTest {
    private static final int YARD = 0;
    private static final int DOWN = 1;
    private static final int UP = 2;
    private static final int WET = 3;
    private static final int STEEP = 4;
    private static final int ICY = 5;
    private static final int CROSSING = 6;
    private static final int CHURCH = 7;
    /** STATEMENTS that a street with a YARD ahead can take one behind the other. */
    private static final String[] STATEMENTS = {"y00;", "p01011;", "w05;", "c1;", "g1;", "h1;", "r01;", "t3;", "m01;"};

    private static Sentences document;

    public static void main(String[] args) throws IOException {
        document = new Sentences("TermsTest");
        kinds();
        moreAndLess();
        cut();
        pushers();
        gasOfTries();
        textsOnShelves();
        statementsAsCalls();
        placesOfStatements();
        refusals();
        refusalsOfShelves();
        noFailures();
        inMind();
        likelyToRun();
        causesOfCoughs();
        drawsByNumbers();
        document.end();
    }

    private static void due(String call, long got, long want) {
        document.due(call, got, want);
    }

    private static PushedTillItCatches told(String text) {
        return Checks.told(text);
    }

    // ---- kinds

    private static void kinds() {
        document.says(3, "of KINDS, each with a FIGURE (0 .. 9): 0 YARD; 1 DOWN under YARD; 2 UP under DOWN; "
                + "3 WET under YARD; 4 STEEP under DOWN; 5 ICY under WET; 6 CROSSING under YARD; 7 CHURCH under CROSSING.");
        for (int kind = YARD; kind <= CHURCH; kind++) {
            for (int figure = 0; figure < 10; figure++) {
                String of = " of " + kind + figure;
                PushedTillItCatches x = told("y" + kind + figure + ";");
                due("keep" + of, x.keep(3, 1, kind, figure), 0);
                due("lays" + of, x.lays(3), 1);
                for (int y = 0; y < 2; y++) {
                    due("KIND" + of, x.yard(y, 0), kind);
                    due("FIGURE" + of, x.yard(y, 1), figure);
                }
                due("GIVES, told and laid" + of, x.yard(0, 2), x.yard(1, 2));
                due("GRIP, told and laid" + of, x.yard(0, 3), x.yard(1, 3));
            }
            for (int figure : new int[] {Streets.MIN, -1, 10, Streets.MAX}) {
                due("keep of " + kind + " with FIGURE " + figure, told("").keep(0, 1, kind, figure), -1);
            }
        }
    }

    private static int gives(int kind, int figure) {
        return told("y" + kind + figure + ";").yard(0, 2) - 10;
    }

    private static int grip(int kind, int figure) {
        return told("y" + kind + figure + ";").yard(0, 3);
    }

    private static int cost(int kind, int figure) {
        PushedTillItCatches x = new PushedTillItCatches();
        x.keep(0, 1, kind, figure);
        return x.cost(0);
    }

    private static void moreAndLess() {
        document.says(3, "Said once more: of a KIND (or SORT) \"n more\", \"n less\" without more words is: "
                + "than what the one it is under has");
        for (int figure = 0; figure < 10; figure++) {
            due("GRIP of UP " + figure, grip(UP, figure), grip(DOWN, figure) - figure / 2);
            due("GRIP of WET " + figure, grip(WET, figure), grip(YARD, figure) - 5);
            due("GIVES of ICY " + figure, gives(ICY, figure), gives(WET, figure) + 1);
            due("GIVES of CHURCH " + figure, gives(CHURCH, figure), gives(CROSSING, figure) - 1);
            due("GIVES of UP " + figure, gives(UP, figure), -gives(DOWN, figure));
            due("GIVES of STEEP " + figure, gives(STEEP, figure), 2 * gives(DOWN, figure));
            due("GRIP of STEEP " + figure, grip(STEEP, figure), grip(DOWN, figure));
            due("GRIP of CHURCH " + figure, grip(CHURCH, figure), grip(CROSSING, figure));
            due("COST of DOWN " + figure, cost(DOWN, figure), cost(YARD, figure) + figure);
            due("COST of UP " + figure, cost(UP, figure), 2 * cost(DOWN, figure));
            due("COST of WET " + figure, cost(WET, figure), cost(YARD, figure) + 3);
            due("COST of STEEP " + figure, cost(STEEP, figure), cost(DOWN, figure) + 5);
            due("COST of CROSSING " + figure, cost(CROSSING, figure), cost(YARD, figure) - 1);
            due("COST of CHURCH " + figure, cost(CHURCH, figure), cost(CROSSING, figure) + figure);
        }
    }

    private static void cut() {
        document.says(3, "\"a by b, cut\" is a divided by b, toward 0");
        due("a third of 8 DOWN", gives(DOWN, 8), 1 + 2);
        due("its sign turned behind the cut", gives(UP, 8), -(1 + 2));
        due("9 by 2, UP", grip(UP, 9), 10 - 4);
        due("5 by 5, ICY", grip(ICY, 0), 1);
        due("5 by 2, ICY", cost(ICY, 9), 2);
        due("7 by 2, DEAD", told("y49;r01;t3;").count(3), 3);
        due("4 by 5, GAS", told("g1;m04;").count(5), 1);
        due("1 by 2, BREATHS", told("p01000;m01;").count(6), 0);
        due("a third of 8, COLD", told("c8;").curve(1, 0), 4 + 2);
        due("a fourth of 7, HAND", told("c0;h7;").curve(1, 0), 4 - 1);
        // Each is cut alone: 3 less 1, though 9 by 3 less 7 by 4 would be 1 and a fourth.
        due("a third of 9 and a fourth of 7", told("c9;h7;").curve(1, 0), 4 + 3 - 1);
        // STRENGTH 19 with GRIP 6 is 11, by WEIGHT 8 it is 1: cut ahead of the 4 less that UP gives.
        due("19 times 6 by 10 by 8, UP", told("y49;y29;p19020;r01;").behind(1, 0), (8 + 2 - 1) - 4 + 1 - 1);
    }

    // ---- pushers and tries

    private static void pushers() {
        document.says(4, "PUSHERS 0 .. 4 as they come (5 at most): a STRENGTH (0 .. 20), a BREATH (0 .. 40), SHOES (0, 1).");
        for (int n = 0; n < 100; n++) {
            String two = Streets.two(n);
            due("STRENGTH " + n, Checks.tell(told(""), 0, "p" + two + "000;"), n <= 20 ? 1 : -2000);
            due("BREATH " + n, Checks.tell(told(""), 0, "p00" + two + "0;"), n <= 40 ? 1 : -2000);
            due("SHOES " + n % 10, Checks.tell(told(""), 0, "p0000" + n % 10 + ";"), n % 10 <= 1 ? 1 : -2000);
        }
        PushedTillItCatches x = told("");
        for (int p = 0; p < 5; p++) {
            due("a PUSHER more", Checks.tell(x, 0, "p0" + (p + 1) + "2" + p + p % 2 + ";"), 1);
            due("PUSHERS", x.count(1), p + 1);
            for (int q = 0; q <= p; q++) {
                due("STRENGTH of " + q, x.pusher(q, 0), q + 1);
                due("BREATH of " + q, x.pusher(q, 1), 20 + q);
                due("SHOES of " + q, x.pusher(q, 2), q % 2);
            }
        }
        due("the sixth", Checks.tell(x, 0, "p06200;"), -2000);
        due("all STRENGTHS", x.count(7), 1 + 2 + 3 + 4 + 5);
        due("all BREATHS", x.count(6), 20 + 21 + 22 + 23 + 24);
    }

    private static void gasOfTries() {
        document.says(9, "A TRY in a GEAR (1 .. 3): LOW");
        for (int gear = -1; gear < 6; gear++) {
            due("tries(" + gear + ") is refused", told("").tries(gear) == -1 ? 1 : 0, gear < 1 || gear > 3 ? 1 : 0);
        }
        document.says(9, "CAUGHT (3): it RUNS. If it does not, GAS is 1 more (9 at most).");
        for (int pace = 0; pace <= 24; pace++) {
            for (int gear = 1; gear <= 3; gear++) {
                for (int gas = 0; gas < 10; gas++) {
                    PushedTillItCatches x = Streets.atPace(pace, "g" + gas + ";");
                    String of = " at " + pace + " with GAS " + gas;
                    boolean caught = x.tries(gear) == 3;
                    due("RUNS behind tries(" + gear + ")" + of, x.count(4), caught ? 1 : 0);
                    due("GAS behind tries(" + gear + ")" + of, x.count(5), caught ? gas : Math.min(9, gas + 1));
                }
            }
        }
    }

    // ---- the text

    private static void textsOnShelves() {
        document.says(2, "THE TEXT of a STREET stands in a ROW of bytes on a SHELF");
        for (int d = 0; d < 8; d++) {
            for (int sort = 0; sort < 3; sort++) {
                PushedTillItCatches x = told("");
                Checks.fill(x, d, sort, "y00;c1;".chars().toArray());
                due("street(" + d + ") of SORT " + sort, x.street(d), sort == 0 ? 2 : -12);
                due("YARDS by it", x.count(0), sort == 0 ? 1 : 0);
            }
        }
    }

    /** A STATEMENT does what the call does that it stands for. */
    private static void same(String beginning, String statement, Sentences.Call called) {
        PushedTillItCatches byText = told(beginning);
        due("street of " + statement, Checks.tell(byText, 7, statement), 1);
        PushedTillItCatches byCall = told(beginning);
        Checks.fill(byCall, 7, 0, statement.chars().toArray());
        document.holds("the call of " + statement + " is not refused", called.on(byCall) >= 0);
        document.holds(statement + " is as the call behind '" + beginning + "'",
                Checks.everythingOf(byText).equals(Checks.everythingOf(byCall)));
    }

    private static void statementsAsCalls() {
        String street = "y49;y00;y25;y30;y54;y00;y77;p12101;p09200;w06;c4;";
        document.says(2, "\"w\" WEIGHT (2 digits)");
        for (int n = 1; n <= 20; n++) {
            int v = n;
            same(street, "w" + Streets.two(v) + ";", x -> x.set(0, v));
        }
        document.says(2, "\"c\" COLD (a digit); \"g\" GAS (a digit); \"h\" HAND (a digit)");
        for (int n = 0; n < 10; n++) {
            int v = n;
            same(street, "c" + v + ";", x -> x.set(1, v));
            same(street, "g" + v + ";", x -> x.set(2, v));
            same(street, "h" + v + ";", x -> x.set(3, v));
        }
        document.says(2, "\"r\" so many YARDS (2 digits, 1 .. 20) are rolled");
        for (int n = 1; n <= 20; n++) {
            int yards = n;
            same(street, "r" + Streets.two(yards) + ";", x -> x.rolls(yards));
            same("y43;".repeat(20), "r" + Streets.two(yards) + ";", x -> x.rolls(yards));
        }
        document.says(2, "\"t\" a GEAR (a digit): a TRY");
        for (int rolled = 1; rolled <= 7; rolled++) {
            for (int gear = 1; gear <= 3; gear++) {
                int one = gear;
                same(street + "r0" + rolled + ";", "t" + gear + ";", x -> x.tries(one));
            }
        }
        document.says(2, "\"m\" MINUTES (2 digits, 1 .. 60): a WAIT.");
        for (int n = 1; n <= 60; n++) {
            int minutes = n;
            same(street + "r03;g9;", "m" + Streets.two(minutes) + ";", x -> x.waits(minutes));
        }
    }

    private static void placesOfStatements() {
        document.says(2, "else kind 2 the place of the letter of the first STATEMENT that is not as it must be (");
        String ahead = "";
        for (String statement : STATEMENTS) {
            due("street of w00; behind " + ahead, Checks.tell(told("y49;"), 0, ahead + "w00;"), -2000 - ahead.length());
            due("street of t0;w00; behind " + ahead, Checks.tell(told("y49;"), 0, ahead + "t0;w00;"), -2000 - ahead.length());
            ahead += statement;
        }
        due("street of all", Checks.tell(told("y49;"), 0, ahead), STATEMENTS.length);
        document.says(2, "no room): -2000 less the place.");
        due("behind 20 YARDS and all else", Checks.tell(told(Streets.TWENTY), 0, "c1;w01;h1;g1;y00;"), -2013);
        due("the last place of 100", Checks.tell(told(Streets.TWENTY), 0, "c1;".repeat(32) + "y00;"), -2096);
    }

    // ---- refusals

    private static void refusals() {
        document.says(36, "no such one, a number out of its range; -2 there is no room");
        PushedTillItCatches full = Streets.full();
        due("a YARD that is none", full.yard(20, 0), -1);
        due("a SHELF that is none", full.keep(8, 0, 0, 0), -1);
        due("a COLD out of its range", full.set(1, 10), -1);
        due("no room for a YARD", full.lays(0), -2);
        document.says(34, "-3 it is not as it must be (it RUNS, where it must not); -4 none.");
        due("it RUNS", Streets.busyRunning().waits(1), -3);
        due("AT the end", full.rolls(1), -3);
        due("there is no IMAGE", told("").restore(), -3);
        due("none", told("").catches(0), -4);
    }

    /** What a call answers of a SHELF with nothing, with a YARD's KIND, with an empty ROW of each SORT. */
    private static void onShelves(String call, ToIntFunction<PushedTillItCatches> asked, int... dues) {
        PushedTillItCatches x = new PushedTillItCatches();
        due(call + " of nothing", asked.applyAsInt(x), dues[0]);
        x.keep(5, 1, DOWN, 7);
        due(call + " of a YARD", asked.applyAsInt(x), dues[1]);
        for (int sort = 0; sort < 3; sort++) {
            x.row(5, sort, 0);
            due(call + " of a ROW of SORT " + sort, asked.applyAsInt(x), dues[2 + sort]);
        }
        x.keep(5, 0, 0, 0);
        due(call + " of nothing again", asked.applyAsInt(x), dues[0]);
    }

    private static void refusalsOfShelves() {
        document.says(36, "Their REFUSALS: -11 nothing is held where something is wanted; -12 it is of another kind");
        onShelves("street", x -> x.street(5), -11, -12, -1000, -12, -12);
        onShelves("lays", x -> x.lays(5), -11, 0, -12, -12, -12);
        onShelves("what", x -> x.what(5), -11, -12, 7, 7, 7);
        onShelves("tryNext", x -> x.tryNext(5), -11, -12, 2, 2, 2);
        onShelves("marks", x -> x.marks(5, 0), -11, -12, 3, 3, 3);
        onShelves("forged", x -> x.forged(5), -11, -12, -4, -4, -4);
        onShelves("judge", x -> x.judge(5), -11, -12, -4, -4, -4);
        onShelves("put", x -> x.put(5, 0, 0), -11, -12, -13, -13, -13);
        onShelves("copy", x -> x.copy(5, 0, 5, 0, 0), -11, -12, 0, 0, 0);
        onShelves("cost", x -> x.cost(5), -11, 9, -12, -12, -12);
        onShelves("toss", x -> x.toss(5), -11, 107, -12, -12, -12);
    }

    private static void noFailures() {
        document.says(42, "-15 a FAILURE that is none.");
        for (int kind = YARD; kind <= CHURCH; kind++) {
            for (int figure = 0; figure < 10; figure++) {
                PushedTillItCatches x = new PushedTillItCatches();
                x.keep(0, 1, kind, figure);
                boolean none = kind >= CROSSING || figure == 0;
                int more = kind == DOWN || kind == UP ? 100 : 0;
                int due = none ? -15 : kind == STEEP ? 200 + 2 + figure + 5 : more + figure;
                due("toss of " + kind + figure, x.toss(0), due);
                due("toss once more of " + kind + figure, x.toss(0), due);
            }
        }
    }

    /** A call in mind leaves all as it is, and answers while it RUNS as told (MIN: as if it did not). */
    private static void mind(String call, Sentences.Call asked, int whileItRuns) {
        long answer = asked.on(Streets.busy());
        document.leavesAll(call, Streets::busy, asked, answer);
        document.holds(call + " is not refused", answer != -3 && answer != -1);
        long due = whileItRuns == Streets.MIN ? answer : whileItRuns;
        document.leavesAll(call + " while it RUNS", Streets::busyRunning, asked, due);
        document.leavesAll(call + " AT the end", Streets::full, asked, asked.on(Streets.full()));
    }

    private static void inMind() {
        document.says(11, "Ahead of the calls `behind`, `catches`, `inGear`, `curve`, `who`, `leaveOne`, `alone`, `pushUp`, "
                + "`howLong`, `hand`, `showing`, `park`, `downTo`, `safe` the interface says: ---- in mind (-3: it RUNS).");
        mind("behind(9, 0)", x -> x.behind(9, 0), -3);
        mind("catches(0)", x -> x.catches(0), -3);
        mind("inGear(3)", x -> x.inGear(3), -3);
        mind("curve(3, 2)", x -> x.curve(3, 2), Streets.MIN);
        mind("who()", x -> x.who(), -3);
        mind("leaveOne()", x -> x.leaveOne(), -3);
        mind("alone()", x -> x.alone(), -3);
        mind("pushUp(0)", x -> x.pushUp(0), -3);
        mind("howLong()", x -> x.howLong(), -3);
        mind("hand()", x -> x.hand(), -3);
        mind("showing()", x -> x.showing(), -3);
        mind("park()", x -> x.park(), Streets.MIN);
        mind("downTo()", x -> x.downTo(), -3);
        mind("safe()", x -> x.safe(), -3);
        document.says(28, "the interface says: ---- coughs.");
        mind("odds(3, 16, 8, 1)", x -> x.odds(3, 16, 8, 1), Streets.MIN);
        mind("gettingIn(3)", x -> x.gettingIn(3), -3);
        document.says(32, "the interface says: ---- marks, told paces.");
        mind("mornings(20, 5, 1)", x -> x.mornings(20, 5, 1), -3);
    }

    // ---- coughs and mornings

    /** The n-th TRY runs, if one ahead of it did, or if it CATCHES itself: by that, one TRY behind the other. */
    private static void likelyToRun() {
        document.says(25, "how likely it RUNS then: a fraction in least terms");
        int[] highs = {7, 12, 20};
        for (String figures : new String[] {"c0;", "c3;", "c9;h5;"}) {
            PushedTillItCatches x = told(figures);
            for (int gear = 1; gear <= 3; gear++) {
                for (int pace = 0; pace <= 24; pace++) {
                    int above = pace - x.curve(gear, 0);
                    int tenths = above < 0 || pace > highs[gear - 1] ? 0 : Math.min(9, above);
                    fractions(x, gear, pace, tenths);
                }
            }
        }
    }

    private static void fractions(PushedTillItCatches x, int gear, int pace, int tenths) {
        BigInteger runs = BigInteger.ZERO;
        BigInteger all = BigInteger.ONE;
        for (int n = 0; n <= 8; n++) {
            BigInteger divisor = runs.gcd(all);
            String call = "odds(" + gear + ", " + pace + ", " + n + ", ";
            due(call + "0)", x.odds(gear, pace, n, 0), runs.divide(divisor).longValueExact());
            due(call + "1)", x.odds(gear, pace, n, 1), all.divide(divisor).longValueExact());
            BigInteger still = all.subtract(runs).multiply(BigInteger.valueOf(tenths));
            runs = runs.multiply(BigInteger.TEN).add(still);
            all = all.multiply(BigInteger.TEN);
        }
    }

    /** All ROWS of at most six coughs, by their number in base 3. */
    private static void causesOfCoughs() {
        document.says(26, "WHAT IS IT: flat (1), damp (2), drowned (4): a ROW of coughs (0 nothing, 1 a cough, 2 a catch) by TRIES");
        PushedTillItCatches x = new PushedTillItCatches();
        int all = 1;
        for (int size = 0; size <= 6; size++) {
            for (int number = 0; number < all; number++) {
                x = new PushedTillItCatches();
                due("what of " + size + " coughs, number " + number, whatOf(x, size, number), causes(size, number));
            }
            all *= 3;
        }
        document.says(27, "TRY NEXT: by which of 0, 1, 2 as the next cough most of these would be out");
        all = 1;
        for (int size = 0; size <= 5; size++) {
            for (int number = 0; number < all; number++) {
                x = new PushedTillItCatches();
                int next = nextBest(size, number, all);
                whatOf(x, size, number);
                due("tryNext of " + size + " coughs, number " + number, x.tryNext(0), next);
            }
            all *= 3;
        }
    }

    private static int whatOf(PushedTillItCatches x, int size, int number) {
        x.row(0, 0, size);
        for (int i = 0, rest = number; i < size; i++, rest /= 3) {
            x.put(0, i, rest % 3);
        }
        return x.what(0);
    }

    private static int causes(int size, int number) {
        boolean flat = true;
        boolean damp = true;
        int last = 0;
        for (int i = 0, rest = number; i < size; i++, rest /= 3) {
            if (rest % 3 == 2) {
                flat &= last == 1;
                damp &= i >= 2;
            }
            last = rest % 3;
        }
        return (flat ? 1 : 0) + (damp ? 2 : 0) + (number == 0 ? 4 : 0);
    }

    /** The next cough stands at the place that is worth so much in base 3. */
    private static int nextBest(int size, int number, int worth) {
        int now = Integer.bitCount(causes(size, number));
        int best = -4;
        int mostOut = -1;
        for (int cough = 0; now >= 2 && cough <= 2; cough++) {
            int out = now - Integer.bitCount(causes(size + 1, number + cough * worth));
            if (out > mostOut) {
                best = cough;
                mostOut = out;
            }
        }
        return best;
    }

    /** Each morning is told as a street of its own, with COLD and BREATHS as they are drawn. */
    private static void drawsByNumbers() {
        document.says(32, "COLD a DRAW below 10, each BREATH a DRAW below 41 (by numbers): how many");
        String yards = "y00;y13;y30;y00;y22;y00;y00;";
        for (int z = -40; z <= 40; z++) {
            int seed = z * 53633;
            PushedTillItCatches x = told(yards + "p07100;p11200;p09301;w05;h3;");
            int caught = 0;
            int till = 0;
            int drawn = seed;
            for (int n = 1; n <= 20; n++) {
                StringBuilder text = new StringBuilder(yards).append("w05;h3;");
                drawn = drawn * 1103515245 + 12345;
                text.append('c').append((drawn & Integer.MAX_VALUE) / 65536 % 10).append(';');
                for (String strength : new String[] {"p07", "p11", "p09"}) {
                    drawn = drawn * 1103515245 + 12345;
                    text.append(strength).append(Streets.two((drawn & Integer.MAX_VALUE) / 65536 % 41));
                    text.append(strength.equals("p09") ? "1;" : "0;");
                }
                int yardsTill = told(text.toString()).catches(0);
                caught += yardsTill >= 0 ? 1 : 0;
                till += Math.max(0, yardsTill);
                due("mornings(" + n + ", " + seed + ", 0)", x.mornings(n, seed, 0), caught);
                due("mornings(" + n + ", " + seed + ", 1)", x.mornings(n, seed, 1), till);
            }
        }
    }
}
