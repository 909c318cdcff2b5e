import java.util.Arrays;

/**
 * One part for each promise of the document: ordinary inputs, edges, wrong inputs.
 *
 * Many parts use one simple street: ten plain yards and a pusher of STRENGTH 16 with WEIGHT 8,
 * so that PACE behind n YARDS is n. COLD is 3 at first: LOW 5, 7, 12 and HIGH 7, 12, 20.
 */
public final class PromiseTest {
    private static final int MIN = Integer.MIN_VALUE;
    private static final int MAX = Integer.MAX_VALUE;
    private static final String FIVE = "y00;y00;y00;y00;y00;";
    private static final String TEN = FIVE + FIVE;
    private static final String PLAIN = TEN + "p16400;";
    private static final String RUNNING = "y49;r01;t1;";
    private static final String STREET =
            "y00;y16;y25;y30;y43;y54;y00;y60;y77;p12051;p09200;p20031;w06;c4;h5;";

    private static final Checks checks = new Checks("PromiseTest");

    public static void main(String[] args) {
        newObject();
        streetDone();
        streetShapes();
        streetStatements();
        streetRefused();
        yards();
        pushers();
        lays();
        set();
        parks();
        rolls();
        tries();
        waits();
        behind();
        catches();
        inGear();
        curve();
        who();
        leaveOne();
        alone();
        pushUp();
        howLong();
        hand();
        showing();
        park();
        downTo();
        safe();
        odds();
        what();
        tryNext();
        gettingIn();
        marks();
        forged();
        judge();
        mornings();
        image();
        restore();
        count();
        keep();
        row();
        put();
        element();
        copy();
        cost();
        toss();
        checks.end();
    }

    private static void due(String call, long got, long want) {
        checks.due(call, got, want);
    }

    private static PushedTillItCatches told(String text) {
        return Checks.told(text);
    }

    /** Promise 1. */
    private static void newObject() {
        PushedTillItCatches x = new PushedTillItCatches();
        for (int what = 0; what < 8; what++) {
            due("1: count(" + what + ")", x.count(what), 0);
        }
        due("1: yard(0, 0)", x.yard(0, 0), -1);
        due("1: pusher(0, 0)", x.pusher(0, 0), -1);
        due("1: restore()", x.restore(), -3);
        due("1: set(0, 20)", x.set(0, 20), 8);
        due("1: set(1, 9)", x.set(1, 9), 3);
        due("1: set(2, 9)", x.set(2, 9), 0);
        due("1: set(3, 9)", x.set(3, 9), 0);
        for (int d = 0; d < 8; d++) {
            due("1: cost(" + d + ")", x.cost(d), -11);
        }
    }

    /** Promise 2: texts without FAULT. */
    private static void streetDone() {
        PushedTillItCatches x = new PushedTillItCatches();
        due("2: all letters", Checks.tell(x, 0, "y19;y00;p16051;w04;c6;g2;h4;r01;t2;m09;"), 10);
        // The yard rolled gives 4 and the push 4: PACE 7, in GEAR 2 at LOW 7; GAS 3, then 9 minutes.
        due("2: AT", x.count(2), 1);
        due("2: PACE", x.count(3), 0);
        due("2: GAS", x.count(5), 2);
        due("2: BREATH", x.pusher(0, 1), 8);
        due("2: STRENGTH", x.pusher(0, 0), 16);
        due("2: SHOES", x.pusher(0, 2), 1);
        due("2: LOW", x.curve(1, 0), 4 + 2 - 1);
        due("2: KIND", x.yard(0, 0), 1);
        due("2: FIGURE", x.yard(0, 1), 9);
        due("2: WEIGHT", x.set(0, 1), 4);
        due("2: the row stays", x.element(0, 3), ';');
        due("2: the same text once more", x.street(0), 10);
        due("2: YARDS then", x.count(0), 4);
        due("2: PUSHERS then", x.count(1), 2);
        due("2: a text of 100 bytes", Checks.tell(told(""), 0, "c1;".repeat(32) + "w08;"), 33);
        due("2: 20 YARDS", Checks.tell(told(""), 0, TEN + TEN), 20);
        due("2: 5 PUSHERS", Checks.tell(told(""), 0, "p20401;".repeat(5)), 5);
        due("2: the least numbers", Checks.tell(told("y49;"), 0, "p00000;w01;c0;g0;h0;m01;r01;"), 7);
        due("2: the greatest numbers", Checks.tell(told("y79;"), 0, "y79;p20401;w20;c9;g9;h9;m60;r20;t3;"), 9);
        x = told("");
        due("2: what may be while it RUNS", Checks.tell(x, 0, RUNNING + "y00;p01010;w09;c1;g1;h1;"), 9);
        due("2: it RUNS", x.count(4), 1);
        due("2: COUGHS is no FAULT", Checks.tell(told(PLAIN), 0, "r05;t1;r02;t2;"), 4);
        x = told("");
        due("2: more rolled than there is", Checks.tell(x, 0, "y49;y49;r20;y00;r01;"), 5);
        due("2: AT then", x.count(2), 3);
        due("2: PACE then", x.count(3), 13);
    }

    private static void shape(String text, int place) {
        PushedTillItCatches x = told(PLAIN);
        String before = Checks.stateOf(x);
        due("2: street of '" + text + "'", Checks.tell(x, 0, text), -1000 - place);
        checks.holds("2: nothing came of '" + text + "'", before.equals(Checks.stateOf(x)));
    }

    /** Promise 2: FAULTS of kind 1. */
    private static void streetShapes() {
        shape("", 0);
        shape("x00;", 0);
        shape(";", 0);
        shape("0", 0);
        shape("Y00;", 0);
        shape("y", 1);
        shape("y0", 2);
        shape("y00", 3);
        shape("y;", 1);
        shape("y0;", 2);
        shape("y000;", 3);
        shape("y00:", 3);
        shape("ya0;", 1);
        shape("y0/;", 2);
        shape("y:0;", 1);
        shape("y00;x", 4);
        shape("y00; ", 4);
        shape("y00;y00", 7);
        shape("y00;;", 4);
        shape("p1205;", 5);
        shape("p120510;", 6);
        shape("p12051", 6);
        shape("w6;", 2);
        shape("w006;", 3);
        shape("c;", 1);
        shape("c04;", 2);
        shape("g10;", 2);
        shape("h;", 1);
        shape("r1;", 2);
        shape("r001;", 3);
        shape("t01;", 2);
        shape("t-1;", 1);
        shape("m5;", 2);
        shape("m060;", 3);
        shape("c1;" + "g1;" + "h", 7);
        // Kind 1 comes first, however early a FAULT of kind 2 stands.
        shape("y80;q", 4);
        shape("w00;w0", 6);
        shape("y00;".repeat(24) + "y00y", 99);
        shape("y00;".repeat(25).substring(0, 99), 99);
        shape("y00;\u0100y", 4);
    }

    private static void statement(String beginning, String text, int place) {
        PushedTillItCatches x = told(beginning);
        String before = Checks.stateOf(x);
        due("2: street of '" + text + "' on '" + beginning + "'", Checks.tell(x, 0, text), -2000 - place);
        checks.holds("2: nothing came of '" + text + "'", before.equals(Checks.stateOf(x)));
    }

    /** Promise 2: FAULTS of kind 2. */
    private static void streetStatements() {
        statement("", "y80;", 0);
        statement("", "y90;", 0);
        statement("", "y00;p21000;", 4);
        statement("", "p00410;", 0);
        statement("", "p00002;", 0);
        statement("", "w00;", 0);
        statement("", "c1;w21;", 3);
        statement("y00;", "r00;", 0);
        statement("y00;", "r21;", 0);
        statement("", "t0;", 0);
        statement("", "t4;", 0);
        statement("", "m00;", 0);
        statement("", "m61;", 0);
        statement("", "r01;", 0);
        statement("y49;", "r01;r01;", 4);
        statement("y00;", "y00;g9;h9;p01010;w01;c9;y80;", 24);
        statement(TEN + TEN, "c1;y00;", 3);
        statement("p01010;p01010;p01010;p01010;", "p01010;p01010;", 7);
        statement(RUNNING, "y00;r01;", 4);
        statement(RUNNING, "t1;", 0);
        statement(RUNNING, "c3;m01;", 3);
        statement("", RUNNING + "y00;c1;t2;", 18);
        statement("", "y00;p01010;w01;c9;g9;h9;m60;y00;y99;w00;", 32);
    }

    /** Promise 2: what is on the SHELF. */
    private static void streetRefused() {
        PushedTillItCatches x = told("");
        due("2: street(-1)", x.street(-1), -1);
        due("2: street(8)", x.street(8), -1);
        due("2: street(MIN)", x.street(MIN), -1);
        due("2: street of nothing", x.street(7), -11);
        x.keep(7, 1, 0, 0);
        due("2: street of a YARD", x.street(7), -12);
        Checks.fill(x, 7, 1, 'y', '0', '0', ';');
        due("2: street of shorts", x.street(7), -12);
        Checks.fill(x, 7, 2, 'y', '0', '0', ';');
        due("2: street of ints", x.street(7), -12);
        due("2: no YARDS", x.count(0), 0);
        Checks.fill(x, 7, 0, 'y' + 256, '0', '0', ';');
        due("2: lowest bits", x.street(7), 1);
    }

    /** Promise 3. */
    private static void yards() {
        int[][] gives = {
            {0, 0, 0, 0, 0, 0, 0, 0, 0, 0}, {1, 1, 1, 2, 2, 2, 3, 3, 3, 4},
            {-1, -1, -1, -2, -2, -2, -3, -3, -3, -4}, {0, 0, 0, 0, 0, 0, 0, 0, 0, 0},
            {2, 2, 2, 4, 4, 4, 6, 6, 6, 8}, {1, 1, 1, 1, 1, 1, 1, 1, 1, 1},
            {0, 0, 0, 0, 0, 0, 0, 0, 0, 0}, {-1, -1, -1, -1, -1, -1, -1, -1, -1, -1}};
        int[] grip = {10, 10, 10, 5, 10, 1, 0, 0};
        for (int kind = 0; kind < 8; kind++) {
            for (int figure = 0; figure < 10; figure++) {
                PushedTillItCatches x = told("c1;y00;y" + kind + figure + ";");
                String of = kind + " with " + figure;
                due("3: KIND of " + of, x.yard(1, 0), kind);
                due("3: FIGURE of " + of, x.yard(1, 1), figure);
                due("3: GIVES of " + of, x.yard(1, 2), 10 + gives[kind][figure]);
                due("3: GRIP of " + of, x.yard(1, 3), grip[kind] - (kind == 2 ? figure / 2 : 0));
            }
        }
        PushedTillItCatches x = told(TEN + TEN);
        due("3: yard(19, 3)", x.yard(19, 3), 10);
        due("3: yard(20, 3)", x.yard(20, 3), -1);
        due("3: yard(-1, 0)", x.yard(-1, 0), -1);
        due("3: yard(0, -1)", x.yard(0, -1), -1);
        due("3: yard(0, 4)", x.yard(0, 4), -1);
        due("3: yard(MIN, 0)", x.yard(MIN, 0), -1);
        due("3: yard(MAX, 0)", x.yard(MAX, 0), -1);
        due("3: yard(0, 0) of none", told("").yard(0, 0), -1);
    }

    /** Promise 4. */
    private static void pushers() {
        PushedTillItCatches x = told("p00001;p20400;p01020;p02031;p03040;");
        int[][] due = {{0, 0, 1}, {20, 40, 0}, {1, 2, 0}, {2, 3, 1}, {3, 4, 0}};
        for (int p = 0; p < 5; p++) {
            for (int what = 0; what < 3; what++) {
                due("4: pusher(" + p + ", " + what + ")", x.pusher(p, what), due[p][what]);
            }
        }
        due("4: pusher(5, 0)", x.pusher(5, 0), -1);
        due("4: pusher(-1, 0)", x.pusher(-1, 0), -1);
        due("4: pusher(0, 3)", x.pusher(0, 3), -1);
        due("4: pusher(0, -1)", x.pusher(0, -1), -1);
        due("4: pusher(MAX, 0)", x.pusher(MAX, 0), -1);
        due("4: pusher(1, 0) of one", told("p01020;").pusher(1, 0), -1);
    }

    /** Promise 5. */
    private static void lays() {
        PushedTillItCatches x = told("");
        due("5: lays(0) of nothing", x.lays(0), -11);
        due("5: lays(-1)", x.lays(-1), -1);
        due("5: lays(8)", x.lays(8), -1);
        x.row(0, 0, 3);
        due("5: lays(0) of a row", x.lays(0), -12);
        x.keep(0, 1, 2, 5);
        x.keep(7, 1, 5, 9);
        due("5: lays(0)", x.lays(0), 0);
        due("5: lays(7)", x.lays(7), 1);
        due("5: KIND", x.yard(0, 0), 2);
        due("5: FIGURE", x.yard(0, 1), 5);
        due("5: KIND of the second", x.yard(1, 0), 5);
        x.keep(0, 1, 0, 1);
        due("5: what was laid stays", x.yard(0, 0), 2);
        for (int y = 2; y < 20; y++) {
            due("5: lays(0) as number " + y, x.lays(0), y);
        }
        due("5: lays(0) without room", x.lays(0), -2);
        due("5: YARDS", x.count(0), 20);
        x.row(0, 0, 0);
        due("5: lays(0) of a row without room", x.lays(0), -12);
        PushedTillItCatches running = told(RUNNING);
        running.keep(0, 1, 0, 0);
        due("5: lays(0) while it RUNS", running.lays(0), 1);
    }

    /** Promise 6. */
    private static void set() {
        PushedTillItCatches x = told("");
        int[] first = {8, 3, 0, 0};
        for (int what = 0; what < 4; what++) {
            int least = what == 0 ? 1 : 0;
            int most = what == 0 ? 20 : 9;
            due("6: set(" + what + ", below)", x.set(what, least - 1), -1);
            due("6: set(" + what + ", above)", x.set(what, most + 1), -1);
            due("6: set(" + what + ", MIN)", x.set(what, MIN), -1);
            due("6: set(" + what + ", least)", x.set(what, least), first[what]);
            due("6: set(" + what + ", most)", x.set(what, most), least);
            due("6: set(" + what + ", 5)", x.set(what, 5), most);
        }
        due("6: set(-1, 1)", x.set(-1, 1), -1);
        due("6: set(4, 1)", x.set(4, 1), -1);
        due("6: GAS told by count", x.count(5), 5);
        due("6: LOW by COLD 5 and HAND 5", x.curve(1, 0), 4);
        PushedTillItCatches running = told(RUNNING);
        due("6: set(1, 9) while it RUNS", running.set(1, 9), 3);
        due("6: it RUNS on", running.count(4), 1);
        PushedTillItCatches heavy = told("y00;p20400;");
        due("6: PACE by WEIGHT 8", heavy.behind(1, 0), 1);
        heavy.set(0, 4);
        due("6: PACE by WEIGHT 4", heavy.behind(1, 0), 4);
    }

    /** Promise 7. */
    private static void parks() {
        PushedTillItCatches x = told(PLAIN);
        x.rolls(3);
        due("7: parks(10)", x.parks(10), 3);
        due("7: AT", x.count(2), 10);
        due("7: PACE", x.count(3), 0);
        due("7: parks(0)", x.parks(0), 10);
        due("7: parks(11)", x.parks(11), -1);
        due("7: parks(-1)", x.parks(-1), -1);
        due("7: parks(MAX)", x.parks(MAX), -1);
        due("7: AT stays", x.count(2), 0);
        PushedTillItCatches running = told(RUNNING);
        due("7: parks(9) while it RUNS", running.parks(9), -1);
        due("7: it RUNS on", running.count(4), 1);
        due("7: parks(1) while it RUNS", running.parks(1), 1);
        due("7: it does not RUN", running.count(4), 0);
        due("7: PACE then", running.count(3), 0);
        due("7: parks(0) without YARDS", told("").parks(0), 0);
    }

    /** Promise 8. */
    private static void rolls() {
        PushedTillItCatches x = told(STREET);
        int[] paces = {5, 13, 16, 17, 23, 23, 23, 22, 20};
        int[] breaths = {25, 22, 19, 17, 15, 14, 13, 12, 11};
        for (int n = 0; n < 9; n++) {
            due("8: rolls(1) of yard " + n, x.rolls(1), paces[n]);
            due("8: AT behind yard " + n, x.count(2), n + 1);
            due("8: BREATHS behind yard " + n, x.count(6), breaths[n]);
        }
        due("8: rolls(1) AT the end", x.rolls(1), -3);
        due("8: PACE stays", x.count(3), 20);
        x = told(PLAIN);
        due("8: rolls(0)", x.rolls(0), -1);
        due("8: rolls(21)", x.rolls(21), -1);
        due("8: rolls(-1)", x.rolls(-1), -1);
        due("8: rolls(4)", x.rolls(4), 4);
        due("8: rolls(20)", x.rolls(20), 10);
        due("8: AT", x.count(2), 10);
        due("8: BREATH", x.count(6), 30);
        due("8: rolls(0) AT the end", x.rolls(0), -1);
        due("8: rolls(1) AT the end", x.rolls(1), -3);
        due("8: rolls(1) without YARDS", told("").rolls(1), -3);
        due("8: rolls(1) while it RUNS", told(RUNNING + "y00;").rolls(1), -3);
        due("8: rolls(21) while it RUNS", told(RUNNING + "y00;").rolls(21), -1);
        PushedTillItCatches stands = told("y00;p08030;");
        due("8: it stands", stands.rolls(2), 0);
        due("8: AT as it stands", stands.count(2), 0);
        due("8: BREATH goes as it stands", stands.pusher(0, 1), 1);
        due("8: puffed", stands.rolls(5), 0);
        due("8: BREATH", stands.pusher(0, 1), 0);
        due("8: PACE is 24 at most", told("y49;".repeat(5)).behind(4, 0), 24);
        PushedTillItCatches up = told("y49;y29;y29;y29;r01;");
        due("8: PACE is 0 at least", up.rolls(2), 0);
        due("8: AT as it stands on the way up", up.count(2), 2);
        // GRIP: socks slip, shoes hold, but on nothing.
        due("8: socks in the WET", told("y30;p19010;w01;").rolls(1), 8);
        due("8: shoes in the WET", told("y30;p19011;w01;").rolls(1), 18);
        due("8: socks on ICE", told("y50;p19010;w01;").rolls(1), 1);
        due("8: shoes on ICE", told("y50;p09011;w01;").rolls(1), 9);
        due("8: socks on the way UP", told("y27;p19010;w01;").rolls(1), 19 * 7 / 10 - 3 - 1);
        due("8: shoes on a CROSSING", told("y60;p20011;w01;").rolls(1), 0);
        due("8: each push is cut alone", told("y30;p05010;p05010;p05010;w01;").rolls(1), 5);
    }

    /** Promise 9. */
    private static void tries() {
        int[][] came = {{5, 1}, {6, 3}, {7, 3}, {8, 2}, {4, 0}};
        for (int[] one : came) {
            PushedTillItCatches x = told(PLAIN);
            x.rolls(one[0]);
            due("9: tries(1) at PACE " + one[0], x.tries(1), one[1]);
            due("9: RUNS", x.count(4), one[1] == 3 ? 1 : 0);
            due("9: GAS", x.count(5), one[1] == 3 ? 0 : 1);
            due("9: PACE", x.count(3), one[1] == 3 ? one[0] : one[1] == 2 ? 0 : one[0] / 2);
            due("9: AT", x.count(2), one[0]);
        }
        int[][] gears = {{2, 6, 0}, {2, 7, 1}, {2, 8, 3}, {3, 8, 0}};
        for (int[] one : gears) {
            PushedTillItCatches x = told(PLAIN);
            x.rolls(one[1]);
            due("9: tries(" + one[0] + ") at PACE " + one[1], x.tries(one[0]), one[2]);
        }
        PushedTillItCatches fast = told("y00;".repeat(3) + "p20030;w02;");
        fast.rolls(2);
        due("9: tries(2) at PACE 18", fast.tries(2), 2);
        fast = told("y00;".repeat(3) + "p20030;w02;r02;t3;");
        due("9: tries(3) at PACE 18", fast.count(4), 1);
        PushedTillItCatches drowned = told(PLAIN + "g6;r06;");
        due("9: DROWNED", drowned.tries(1), 4);
        due("9: DROWNED, PACE", drowned.count(3), 6);
        due("9: DROWNED, GAS", drowned.count(5), 7);
        drowned.set(2, 9);
        due("9: DROWNED by all GAS", drowned.tries(1), 4);
        due("9: GAS is 9 at most", drowned.count(5), 9);
        drowned.set(2, 5);
        due("9: not DROWNED by 5", drowned.tries(1), 3);
        due("9: tries(0)", drowned.tries(0), -1);
        due("9: tries(4)", drowned.tries(4), -1);
        due("9: tries(MIN)", drowned.tries(MIN), -1);
        due("9: tries(1) while it RUNS", drowned.tries(1), -3);
        // COLD 9 lifts LOW of GEAR 1 to its HIGH: it COUGHS there, and is never CAUGHT.
        due("9: LOW is HIGH", told(PLAIN + "c9;r07;").tries(1), 1);
        due("9: AT the end", told("y49;r01;").tries(1), 3);
    }

    /** Promise 10. */
    private static void waits() {
        PushedTillItCatches x = told("y49;p20390;p10000;g8;r01;");
        due("10: PACE ahead", x.count(3), 9);
        due("10: waits(1)", x.waits(1), 8);
        due("10: PACE", x.count(3), 0);
        due("10: BREATHS behind 1", x.count(6), 38);
        due("10: waits(4)", x.waits(4), 8);
        due("10: BREATH is 40 at most", x.pusher(0, 1), 40);
        due("10: BREATH of the other", x.pusher(1, 1), 2);
        due("10: waits(14)", x.waits(14), 6);
        due("10: waits(60)", x.waits(60), 0);
        due("10: BREATHS", x.count(6), 40 + 39);
        due("10: AT", x.count(2), 1);
        due("10: waits(0)", x.waits(0), -1);
        due("10: waits(61)", x.waits(61), -1);
        due("10: waits(-5)", x.waits(-5), -1);
        due("10: waits(1) while it RUNS", told(RUNNING).waits(1), -3);
        due("10: waits(0) while it RUNS", told(RUNNING).waits(0), -1);
    }

    /** Promise 11. */
    private static void behind() {
        PushedTillItCatches x = told(PLAIN);
        for (int n = 0; n <= 40; n++) {
            due("11: behind(" + n + ", 0)", x.behind(n, 0), Math.min(n, 10));
            due("11: behind(" + n + ", 1)", x.behind(n, 1), Math.min(n, 10));
            due("11: behind(" + n + ", 2)", x.behind(n, 2), 40 - Math.min(n, 10));
        }
        x.rolls(3);
        due("11: from now", x.behind(2, 0), 5);
        due("11: in mind alone", x.count(2), 3);
        due("11: BREATH stays", x.count(6), 37);
        due("11: behind(-1, 0)", x.behind(-1, 0), -1);
        due("11: behind(41, 0)", x.behind(41, 0), -1);
        due("11: behind(0, 3)", x.behind(0, 3), -1);
        due("11: behind(0, -1)", x.behind(0, -1), -1);
        due("11: BREATHS as it stands", told("y00;p01400;p02010;").behind(40, 2), 0);
        due("11: AT as it stands", told("y00;p01400;p02010;").behind(40, 1), 0);
        due("11: while it RUNS", told(RUNNING).behind(0, 0), -3);
        due("11: behind(41, 0) while it RUNS", told(RUNNING).behind(41, 0), -1);
    }

    /** Promise 12. */
    private static void catches() {
        PushedTillItCatches x = told(PLAIN);
        due("12: catches(0)", x.catches(0), 6);
        due("12: catches(1)", x.catches(1), 1);
        due("12: catches(2)", x.catches(2), 6);
        x.rolls(6);
        due("12: catches(0) now", x.catches(0), 0);
        due("12: catches(2) now", x.catches(2), 6);
        x.rolls(1);
        x.set(1, 9);
        due("12: catches(0) in the next GEAR", x.catches(0), 3);
        due("12: catches(1) in the next GEAR", x.catches(1), 2);
        due("12: catches(2) in the next GEAR", x.catches(2), 10);
        x.set(2, 6);
        for (int what = 0; what < 3; what++) {
            due("12: DROWNED", x.catches(what), -4);
            due("12: never", told(FIVE + "p16400;").catches(what), -4);
            due("12: while it RUNS", told(RUNNING).catches(what), -3);
        }
        due("12: catches(3)", x.catches(3), -1);
        due("12: catches(-1)", x.catches(-1), -1);
        due("12: catches(3) while it RUNS", told(RUNNING).catches(3), -1);
        due("12: on the last YARD", told(FIVE + "y00;p16400;").catches(0), 6);
        due("12: as PACE goes down", told("y49;y49;y49;" + TEN + "r03;").catches(0), 1);
        due("12: the GEAR as PACE goes down", told("y49;y49;y49;" + TEN + "r03;").catches(1), 3);
        due("12: 5 GAS", told(PLAIN + "g5;").catches(0), 6);
    }

    /** Promise 13. */
    private static void inGear() {
        PushedTillItCatches x = told(PLAIN);
        due("13: inGear(1)", x.inGear(1), 6);
        due("13: inGear(2)", x.inGear(2), 8);
        due("13: inGear(3)", x.inGear(3), -4);
        x.set(3, 8);
        due("13: inGear(2) by HAND 8", x.inGear(2), 6);
        x.set(1, 0);
        due("13: inGear(3) by COLD 0", x.inGear(3), 10);
        due("13: inGear(0)", x.inGear(0), -1);
        due("13: inGear(4)", x.inGear(4), -1);
        due("13: while it RUNS", told(RUNNING).inGear(1), -3);
        due("13: inGear(0) while it RUNS", told(RUNNING).inGear(0), -1);
        due("13: DROWNED", told(PLAIN + "g6;").inGear(1), -4);
    }

    /** Promise 14. */
    private static void curve() {
        int[] lows = {4, 6, 11};
        int[] highs = {7, 12, 20};
        for (int cold = 0; cold < 10; cold++) {
            PushedTillItCatches x = told("");
            for (int hand = 0; hand < 10; hand++) {
                x.set(1, cold);
                x.set(3, hand);
                for (int gear = 1; gear <= 3; gear++) {
                    int low = lows[gear - 1] + cold / 3 - hand / 4;
                    due("14: curve(" + gear + ", 0)", x.curve(gear, 0), low);
                    due("14: curve(" + gear + ", 1)", x.curve(gear, 1), highs[gear - 1]);
                    due("14: curve(" + gear + ", 2)", x.curve(gear, 2), highs[gear - 1] - low);
                }
            }
        }
        PushedTillItCatches x = told("");
        due("14: curve(0, 0)", x.curve(0, 0), -1);
        due("14: curve(4, 0)", x.curve(4, 0), -1);
        due("14: curve(1, 3)", x.curve(1, 3), -1);
        due("14: curve(1, -1)", x.curve(1, -1), -1);
        due("14: while it RUNS", told(RUNNING).curve(1, 0), 5);
        due("14: 5 GAS", told("g5;").curve(3, 2), 8);
        due("14: a TRY is DROWNED at any PACE", told("g6;").curve(3, 2), 0);
        due("14: LOW with GAS", told("g6;").curve(3, 0), 12);
    }

    /** Promise 15. */
    private static void who() {
        due("15: one is enough", told(TEN + "p08400;p16400;p16400;").who(), 2);
        due("15: two of three", told(TEN + "p08400;p08400;p08400;").who(), 3);
        due("15: the first and the third", told(TEN + "p08400;p01400;p08400;").who(), 5);
        due("15: fewer rather than least", told(TEN + "p08400;p08400;p16400;").who(), 4);
        due("15: all five", told(TEN + "p04400;p04400;p04400;p02400;p02400;").who(), 31);
        due("15: nobody", told("y49;p16400;").who(), 0);
        due("15: nobody is there", told("y49;").who(), 0);
        due("15: never", told(FIVE + "p16400;").who(), -4);
        due("15: no YARDS", told("p16400;").who(), -4);
        due("15: too little BREATH", told(TEN + "p16050;p16060;").who(), 2);
        due("15: while it RUNS", told(RUNNING).who(), -3);
        due("15: DROWNED", told(PLAIN + "g7;").who(), -4);
    }

    /** Promise 16. */
    private static void leaveOne() {
        due("16: the greatest STRENGTH", told(TEN + "p08400;p16400;p08400;").leaveOne(), 1);
        due("16: of several the least", told(TEN + "p16400;p16400;").leaveOne(), 0);
        due("16: the strongest can't be left", told(TEN + "p03400;p16400;p04400;").leaveOne(), 2);
        due("16: none can be left", told(PLAIN).leaveOne(), -4);
        due("16: nobody is there", told("y49;").leaveOne(), -4);
        due("16: who has STRENGTH 0", told(PLAIN + "p00400;").leaveOne(), 1);
        due("16: on the slope", told("y49;p16400;").leaveOne(), 0);
        due("16: the fifth", told(PLAIN + "p01400;p01400;p01400;p02400;").leaveOne(), 4);
        due("16: while it RUNS", told(RUNNING).leaveOne(), -3);
    }

    /** Promise 17. */
    private static void alone() {
        due("17: pushed to the slope", told("y00;y00;y00;y19;y19;p16400;").alone(), 2);
        due("17: at once", told("y49;").alone(), 0);
        due("17: as it is CAUGHT", told(PLAIN).alone(), 6);
        due("17: CAUGHT now", told(PLAIN + "r06;").alone(), 0);
        due("17: never", told(FIVE + "p16400;").alone(), -4);
        due("17: while it RUNS", told(RUNNING).alone(), -3);
        due("17: DROWNED", told("y49;g6;").alone(), -4);
        due("17: by PACE that goes down", told("y49;y49;y49;" + TEN + "r03;").alone(), 0);
    }

    /** Promise 18. */
    private static void pushUp() {
        PushedTillItCatches x = told(PLAIN);
        due("18: not at all", x.pushUp(0), 0);
        due("18: n then", x.pushUp(1), 6);
        x.parks(8);
        due("18: four back", x.pushUp(0), 4);
        due("18: n then", x.pushUp(1), 6);
        due("18: in mind alone", x.count(2), 8);
        x.parks(10);
        due("18: from the end", x.pushUp(0), 6);
        due("18: too little BREATH to push back", told(TEN + "r01;p16030;").pushUp(0), -4);
        PushedTillItCatches puffed = told(TEN + "p16090;");
        puffed.parks(8);
        due("18: too little BREATH then", puffed.pushUp(0), -4);
        due("18: too little BREATH then", puffed.pushUp(1), -4);
        puffed = told(TEN + "p16100;");
        puffed.parks(8);
        due("18: just enough BREATH", puffed.pushUp(0), 4);
        PushedTillItCatches slope = told("y49;y00;p00010;");
        slope.parks(1);
        due("18: up the slope", slope.pushUp(0), 1);
        due("18: n from there", slope.pushUp(1), 1);
        slope.rolls(1);
        due("18: nobody has BREATH", slope.pushUp(0), -4);
        // As it is PACE stays; pushed back it stands first.
        due("18: PACE as it is", told(PLAIN + "r06;").pushUp(1), 0);
        due("18: pushUp(2)", x.pushUp(2), -1);
        due("18: pushUp(-1)", x.pushUp(-1), -1);
        due("18: while it RUNS", told(RUNNING).pushUp(0), -3);
        due("18: pushUp(2) while it RUNS", told(RUNNING).pushUp(2), -1);
        due("18: two, of whom one has BREATH", backedFromEnd("y49;p00000;p00010;"), 1);
        due("18: none has BREATH for two", backedFromEnd("y49;y00;p00000;p00010;"), -4);
        due("18: BREATH for two", backedFromEnd("y49;y00;p00000;p00020;"), 2);
        due("18: no BREATH is left to push", backedFromEnd("y00;p20010;w01;"), -4);
        due("18: one BREATH is left to push", backedFromEnd("y00;p20020;w01;"), 1);
    }

    private static int backedFromEnd(String text) {
        PushedTillItCatches x = told(text);
        x.parks(x.count(0));
        return x.pushUp(0);
    }

    /** Promise 19. */
    private static void howLong() {
        due("19: not at all", told(PLAIN).howLong(), 0);
        due("19: for GAS", told(PLAIN + "g8;").howLong(), 15);
        due("19: for all GAS", told(PLAIN + "g9;").howLong(), 20);
        due("19: for BREATH", told(TEN + "p16000;").howLong(), 12);
        due("19: for the next BREATH", told(TEN + "p16050;").howLong(), 2);
        due("19: no wait keeps PACE", told(PLAIN + "r06;").howLong(), 0);
        due("19: a wait does not", told(PLAIN + "r06;g6;").howLong(), -4);
        due("19: never", told(FIVE + "p16400;").howLong(), -4);
        due("19: for BREATH of two", told(TEN + TEN + "p08000;p08000;c9;").howLong(), 20);
        due("19: a minute, to lose PACE", told("y49;".repeat(8) + "r04;").howLong(), 1);
        due("19: while it RUNS", told(RUNNING).howLong(), -3);
    }

    /** Promise 20. */
    private static void hand() {
        due("20: any", told(PLAIN + "h9;").hand(), 0);
        due("20: a fourth", told(FIVE + "p16400;").hand(), 4);
        due("20: two fourths", told("y00;y00;y00;y00;p16400;").hand(), 8);
        due("20: never", told("y00;y00;y00;p16400;").hand(), -4);
        due("20: DROWNED", told(PLAIN + "g6;").hand(), -4);
        PushedTillItCatches x = told(FIVE + "p16400;h2;");
        x.hand();
        due("20: in mind alone", x.set(3, 0), 2);
        due("20: while it RUNS", told(RUNNING).hand(), -3);
    }

    /** Promise 21. */
    private static void showing() {
        due("21: two sooner", told(PLAIN).showing(), 2);
        due("21: one sooner", told(PLAIN + "h7;").showing(), 1);
        due("21: none sooner", told(PLAIN + "h9;").showing(), 0);
        due("21: never as it is", told(FIVE + "p16400;").showing(), 41 - 4);
        due("21: never with 9", told("y00;y00;y00;p16400;").showing(), -4);
        due("21: DROWNED", told(PLAIN + "g6;").showing(), -4);
        due("21: while it RUNS", told(RUNNING).showing(), -3);
    }

    /** Promise 22. */
    private static void park() {
        due("22: on the slope", told("y00;y19;y19;y00;p20400;").park(), 1);
        due("22: of several the least", told("y49;y49;y49;").park(), 0);
        due("22: soonest", told("y19;y19;y00;y49;").park(), 3);
        due("22: PACE is 0 there", told("y49;y00;y49;r01;").park(), 0);
        due("22: nobody pushes", told(PLAIN).park(), -4);
        due("22: no YARDS", told("").park(), -4);
        due("22: DROWNED", told("y49;g6;").park(), -4);
        due("22: while it RUNS", told(RUNNING).park(), 0);
        PushedTillItCatches x = told("y49;y00;");
        x.parks(2);
        due("22: from the end", x.park(), 0);
        due("22: in mind alone", x.count(2), 2);
        due("22: the last YARD", told("y00;y00;y49;").park(), 2);
    }

    /** Promise 23. */
    private static void downTo() {
        due("23: all the way", told(PLAIN).downTo(), 10);
        due("23: up and down", told(STREET).downTo(), 23);
        due("23: PACE now", told("y49;y00;y29;r01;").downTo(), 7);
        due("23: AT the end", told("y49;r01;").downTo(), 7);
        due("23: it stands", told("y00;p08400;").downTo(), 0);
        due("23: no YARDS", told("").downTo(), 0);
        due("23: 24 at most", told("y49;".repeat(6)).downTo(), 24);
        due("23: while it RUNS", told(RUNNING).downTo(), -3);
        due("23: all of 20", told(TEN + TEN + "p16400;").downTo(), 20);
    }

    /** Promise 24. */
    private static void safe() {
        due("24: over it", told("y19;y60;").safe(), 0);
        due("24: over a CHURCH", told("y19;y70;").safe(), 0);
        due("24: it stands ahead of it", told("y13;y60;y00;").safe(), 1);
        due("24: it stands ahead of a CHURCH", told("y16;y79;y00;").safe(), 1);
        due("24: it stands at first", told("y10;y60;").safe(), 1);
        due("24: there is none", told("y49;y49;y49;").safe(), 1);
        due("24: no YARDS", told("").safe(), 1);
        due("24: nobody pushes", told("y00;y60;p20400;w01;").safe(), 1);
        due("24: PACE now", told("y49;y00;y60;r01;").safe(), 0);
        due("24: the first alone matters", told("y13;y60;y49;y60;").safe(), 1);
        PushedTillItCatches x = told("y60;y49;y00;");
        x.parks(1);
        due("24: behind it", x.safe(), 1);
        due("24: it stops far ahead", told("y19;y00;y00;y00;y00;y60;").safe(), 1);
        due("24: while it RUNS", told(RUNNING).safe(), -3);
    }

    private static void fraction(PushedTillItCatches x, int gear, int pace, int n, long above, long below) {
        String call = "25: odds(" + gear + ", " + pace + ", " + n + ", ";
        due(call + "0)", x.odds(gear, pace, n, 0), above);
        due(call + "1)", x.odds(gear, pace, n, 1), below);
    }

    /** Promise 25. */
    private static void odds() {
        PushedTillItCatches x = told("");
        fraction(x, 2, 12, 1, 1, 2);
        fraction(x, 2, 12, 2, 3, 4);
        fraction(x, 2, 12, 8, 255, 256);
        fraction(x, 2, 8, 1, 1, 10);
        fraction(x, 2, 8, 2, 19, 100);
        fraction(x, 2, 8, 8, 100000000 - 43046721, 100000000);
        fraction(x, 2, 7, 8, 0, 1);
        fraction(x, 2, 6, 8, 0, 1);
        fraction(x, 2, 13, 8, 0, 1);
        fraction(x, 2, 12, 0, 0, 1);
        fraction(x, 3, 20, 1, 4, 5);
        fraction(x, 3, 20, 2, 24, 25);
        fraction(x, 3, 21, 2, 0, 1);
        fraction(x, 1, 7, 1, 1, 5);
        fraction(x, 3, 24, 1, 0, 1);
        fraction(x, 1, 0, 1, 0, 1);
        x.set(1, 0);
        x.set(3, 9);
        fraction(x, 3, 20, 1, 9, 10);
        fraction(x, 3, 19, 1, 9, 10);
        fraction(x, 3, 18, 1, 9, 10);
        fraction(x, 3, 17, 1, 4, 5);
        fraction(x, 3, 20, 8, 99999999, 100000000);
        x.set(2, 9);
        fraction(x, 3, 18, 1, 9, 10);
        fraction(told(RUNNING), 2, 12, 1, 1, 2);
        long refused = -1000000001L;
        due("25: odds(0, 5, 1, 0)", x.odds(0, 5, 1, 0), refused);
        due("25: odds(4, 5, 1, 0)", x.odds(4, 5, 1, 0), refused);
        due("25: odds(1, -1, 1, 0)", x.odds(1, -1, 1, 0), refused);
        due("25: odds(1, 25, 1, 0)", x.odds(1, 25, 1, 0), refused);
        due("25: odds(1, 5, -1, 0)", x.odds(1, 5, -1, 0), refused);
        due("25: odds(1, 5, 9, 0)", x.odds(1, 5, 9, 0), refused);
        due("25: odds(1, 5, 1, 2)", x.odds(1, 5, 1, 2), refused);
        due("25: odds(1, 5, 1, -1)", x.odds(1, 5, 1, -1), refused);
    }

    private static void coughs(int causes, int next, int... row) {
        for (int sort = 0; sort < 3; sort++) {
            PushedTillItCatches x = told("");
            Checks.fill(x, 3, sort, row);
            due("26: what of " + java.util.Arrays.toString(row), x.what(3), causes);
            due("27: tryNext of " + java.util.Arrays.toString(row), x.tryNext(3), next);
        }
    }

    /** Promise 26 (and what TRY NEXT answers to the same rows, promise 27). */
    private static void what() {
        coughs(7, 2);
        coughs(7, 2, 0);
        coughs(7, 2, 0, 0, 0);
        coughs(3, 2, 1);
        coughs(1, -4, 1, 2);
        coughs(3, 0, 0, 1);
        coughs(3, 2, 1, 1, 2);
        coughs(3, 0, 1, 1);
        coughs(2, -4, 0, 0, 2);
        coughs(3, 2, 0, 1, 2);
        coughs(0, -4, 2, 1, 2);
        coughs(0, -4, 2);
        coughs(2, -4, 0, 1, 2, 2);
        coughs(2, -4, 1, 0, 2);
        coughs(3, 2, 1, 0);
        coughs(1, -4, 1, 2, 0);
        coughs(3, 2, 0, 0, 0, 0, 1, 2, 1, 2);
        PushedTillItCatches x = told("");
        shelfRefusals("26: what", new int[] {x.what(-1), x.what(8), x.what(2)});
        x.keep(2, 1, 0, 0);
        due("26: what of a YARD", x.what(2), -12);
        Checks.fill(x, 2, 2, 0, 3);
        due("26: what of a 3", x.what(2), -13);
        Checks.fill(x, 2, 0, -1, 0);
        due("26: what of a number below 0", x.what(2), -13);
    }

    private static void shelfRefusals(String call, int[] came) {
        due(call + "(-1)", came[0], -1);
        due(call + "(8)", came[1], -1);
        due(call + "(2) of nothing", came[2], -11);
    }

    /** Promise 27: what it refuses. */
    private static void tryNext() {
        PushedTillItCatches x = told("");
        shelfRefusals("27: tryNext", new int[] {x.tryNext(-1), x.tryNext(8), x.tryNext(2)});
        x.keep(2, 1, 0, 0);
        due("27: tryNext of a YARD", x.tryNext(2), -12);
        Checks.fill(x, 2, 2, 2, 2, MAX);
        due("27: tryNext of another number", x.tryNext(2), -13);
        Checks.fill(x, 2, 1, 0, 3);
        due("27: tryNext of a 3", x.tryNext(2), -13);
        Checks.fill(x, 2, 1, 0, -1);
        due("27: tryNext of a number below 0", x.tryNext(2), -13);
        Checks.fill(x, 2, 0, new int[100]);
        due("27: tryNext of 100", x.tryNext(2), 2);
    }

    /** Promise 28. */
    private static void gettingIn() {
        PushedTillItCatches x = told(STREET);
        due("28: gettingIn(1)", x.gettingIn(1), 2);
        due("28: gettingIn(2)", x.gettingIn(2), 2);
        due("28: gettingIn(3)", x.gettingIn(3), -4);
        // WEIGHT 1, three of STRENGTH 20: PACE 19, 24, 23, 22, .. with 1, 2, 3, 3, .. in.
        x = told(TEN + TEN + "p20400;p20400;p20400;w01;");
        due("28: the first in", x.gettingIn(3), 1);
        due("28: all in, far on", x.gettingIn(2), 3);
        due("28: all in, farther on", x.gettingIn(1), 3);
        due("28: in mind alone", x.set(0, 1), 1);
        due("28: none in", told(PLAIN + "r06;").gettingIn(1), 0);
        due("28: AT the end", told("p20400;").gettingIn(1), -4);
        due("28: the one who pushes is in", told(PLAIN).gettingIn(1), -4);
        // The second pushes alone by 2, WEIGHT 9 then: 18 by 9.
        due("28: WEIGHT is 1 more", told(TEN + "p00000;p18400;").gettingIn(1), -4);
        due("28: WEIGHT is 20 at most", told("y49;y00;p00000;p20400;w20;").gettingIn(2), 1);
        due("28: gettingIn(0)", x.gettingIn(0), -1);
        due("28: gettingIn(4)", x.gettingIn(4), -1);
        due("28: while it RUNS", told(RUNNING).gettingIn(1), -3);
        due("28: gettingIn(4) while it RUNS", told(RUNNING).gettingIn(4), -1);
        due("28: DROWNED", told(PLAIN + "r06;g6;").gettingIn(1), -4);
    }

    private static void locked(int howMany, int forged, int... paces) {
        PushedTillItCatches x = told("g9;");
        Checks.fill(x, 4, 1, paces);
        String of = java.util.Arrays.toString(paces);
        due("29: marks how many of " + of, x.marks(4, 0), howMany);
        due("29: marks the least of " + of, x.marks(4, 1), howMany > 0 ? 1 : -4);
        due("30: forged of " + of, x.forged(4), forged);
    }

    /** Promise 29 (and what FORGED answers to the same rows, promise 30). */
    private static void marks() {
        locked(3, -4);
        locked(3, -4, 21, 24);
        locked(2, -4, 20);
        locked(2, -4, 21, 13);
        locked(1, -4, 12);
        locked(1, -4, 24, 8, 13);
        locked(0, 0, 7);
        locked(0, 2, 8, 8, 7, 0);
        locked(0, 1, 24, 0);
        PushedTillItCatches x = told("");
        due("29: marks(-1, 0)", x.marks(-1, 0), -1);
        due("29: marks(8, 0)", x.marks(8, 0), -1);
        due("29: marks(2, 0) of nothing", x.marks(2, 0), -11);
        due("29: marks(2, 2)", x.marks(2, 2), -1);
        due("29: marks(2, -1)", x.marks(2, -1), -1);
        x.keep(2, 1, 0, 0);
        due("29: marks(2, 0) of a YARD", x.marks(2, 0), -12);
        Checks.fill(x, 2, 0, 10, 25);
        due("29: marks of 25", x.marks(2, 0), -13);
        Checks.fill(x, 2, 0, 10, -1);
        due("29: marks of -1", x.marks(2, 1), -13);
        Checks.fill(x, 2, 0, 0, 24);
        due("29: marks of 0 and 24", x.marks(2, 0), 0);
        Checks.fill(x, 2, 2, 8);
        due("29: while it RUNS", marksWhileItRuns(), 1);
    }

    private static int marksWhileItRuns() {
        PushedTillItCatches x = told(RUNNING);
        Checks.fill(x, 0, 2, 8);
        return x.marks(0, 0);
    }

    /** Promise 30: what it refuses. */
    private static void forged() {
        PushedTillItCatches x = told("");
        shelfRefusals("30: forged", new int[] {x.forged(-1), x.forged(8), x.forged(2)});
        x.keep(2, 1, 7, 7);
        due("30: forged of a YARD", x.forged(2), -12);
        Checks.fill(x, 2, 0, 0, 25);
        due("30: forged with 25 behind", x.forged(2), -13);
        Checks.fill(x, 2, 2, -1);
        due("30: forged of -1", x.forged(2), -13);
    }

    private static int judged(String text, int sort, int... paces) {
        PushedTillItCatches x = told(text);
        Checks.fill(x, 5, sort, paces);
        int came = x.judge(5);
        due("31: in mind alone", x.count(2), told(text).count(2));
        return came;
    }

    /** Promise 31. */
    private static void judge() {
        due("31: all so", judged(PLAIN, 0, 0, 1, 2, 3), -4);
        due("31: nothing told", judged(PLAIN, 0), -4);
        due("31: now is not so", judged(PLAIN, 1, 1, 1), 0);
        due("31: the third is not so", judged(PLAIN, 2, 0, 1, 3, 9), 2);
        due("31: from now on", judged(PLAIN + "r03;", 0, 3, 4, 5), -4);
        due("31: bytes skipped", judged(PLAIN, 0, -128, 1, -128, 4), 3);
        due("31: shorts skipped", judged(PLAIN, 1, -32768, 1, -32768, 3), -4);
        due("31: ints skipped", judged(PLAIN, 2, MIN, 1, MIN, 3), -4);
        due("31: the least of bytes in shorts", judged(PLAIN, 1, 0, -128), 1);
        due("31: the least of shorts in ints", judged(PLAIN, 2, 0, -32768), 1);
        judgeBeyondForty();
        PushedTillItCatches x = told(RUNNING);
        shelfRefusals("31: judge", new int[] {x.judge(-1), x.judge(8), x.judge(2)});
        x.keep(2, 1, 7, 7);
        due("31: judge of a YARD", x.judge(2), -12);
        x.row(2, 0, 0);
        due("31: judge while it RUNS", x.judge(2), -3);
    }

    private static void judgeBeyondForty() {
        int[] upTo40 = new int[41];
        int[] all = new int[100];
        for (int i = 0; i < 100; i++) {
            all[i] = Math.min(i, 10);
        }
        System.arraycopy(all, 0, upTo40, 0, 41);
        due("31: all up to 40 so", judged(PLAIN, 0, upTo40), -4);
        due("31: beyond 40 none is so", judged(PLAIN, 0, all), 41);
        upTo40[40] = 9;
        due("31: 40 is not so", judged(PLAIN, 1, upTo40), 40);
        all[41] = 9;
        due("31: beyond 40, not the PACE", judged(PLAIN, 2, all), 41);
        all[41] = -128;
        due("31: 41 is skipped", judged(PLAIN, 0, all), 42);
        due("31: the least of bytes beyond 40 in shorts", judged(PLAIN, 1, all), 41);
        Arrays.fill(all, 41, 99, -128);
        due("31: the last", judged(PLAIN, 0, all), 99);
        all[99] = -128;
        due("31: all beyond 40 skipped", judged(PLAIN, 0, all), -4);
        all[7] = 8;
        due("31: ahead of 40", judged(PLAIN, 0, all), 7);
        due("31: no YARDS", judged("w08;", 0, new int[41]), -4);
        due("31: no YARDS, beyond 40", judged("w08;", 0, new int[76]), 41);
        Arrays.fill(all, MIN);
        due("31: all skipped", judged(PLAIN, 2, all), -4);
    }

    /** Promise 32. */
    private static void mornings() {
        PushedTillItCatches x = told(STREET);
        due("32: mornings(20, 3, 0)", x.mornings(20, 3, 0), 20);
        due("32: mornings(20, 3, 1)", x.mornings(20, 3, 1), 32);
        x = told(PLAIN);
        int[] caught = {0, 0};
        // COLD below 3, 6 or 9 is CAUGHT behind 5, 6, 7 YARDS, COLD 9 behind 10 in GEAR 2; BREATH must do.
        int[][] drawn = draws(20, -5);
        for (int[] one : drawn) {
            int needed = one[0] < 3 ? 5 : one[0] < 6 ? 6 : one[0] < 9 ? 7 : 10;
            if (one[1] >= needed) {
                caught[0]++;
                caught[1] += needed;
            }
        }
        checks.holds("32: some mornings are CAUGHT, some not", caught[0] > 10 && caught[0] < 20);
        due("32: mornings(20, -5, 0)", x.mornings(20, -5, 0), caught[0]);
        due("32: mornings(20, -5, 1)", x.mornings(20, -5, 1), caught[1]);
        due("32: in mind alone", x.count(6), 40);
        due("32: COLD stays", x.set(1, 3), 3);
        due("32: nobody pushes", told("y49;").mornings(7, 1, 0), 7);
        due("32: one morning", told("y49;").mornings(1, 1, 1), 1);
        // The first DRAW is 9: LOW is HIGH in GEAR 1, and PACE 7 COUGHS.
        due("32: too COLD", told("y49;").mornings(1, MAX, 0), 0);
        due("32: DROWNED", told("y49;g6;").mornings(7, 1, 0), 0);
        due("32: DROWNED, YARDS", told("y49;g6;").mornings(7, 1, 1), 0);
        due("32: mornings(0, 1, 0)", x.mornings(0, 1, 0), -1);
        due("32: mornings(21, 1, 0)", x.mornings(21, 1, 0), -1);
        due("32: mornings(1, 1, 2)", x.mornings(1, 1, 2), -1);
        due("32: mornings(1, 1, -1)", x.mornings(1, 1, -1), -1);
        due("32: while it RUNS", told(RUNNING).mornings(1, 1, 0), -3);
        due("32: mornings(0, 1, 0) while it RUNS", told(RUNNING).mornings(0, 1, 0), -1);
    }

    private static int[][] draws(int n, int z) {
        java.math.BigInteger seed = java.math.BigInteger.valueOf(z);
        int[][] drawn = new int[n][2];
        for (int k = 0; k < 2 * n; k++) {
            seed = seed.multiply(java.math.BigInteger.valueOf(1103515245)).add(java.math.BigInteger.valueOf(12345));
            int bits = seed.intValue() & MAX;
            drawn[k / 2][k % 2] = bits / 65536 % (k % 2 == 0 ? 10 : 41);
        }
        return drawn;
    }

    /** Promise 33. */
    private static void image() {
        PushedTillItCatches x = told(PLAIN);
        due("33: image() AT 0", x.image(), 0);
        x.rolls(4);
        due("33: image() AT 4", x.image(), 4);
        due("33: nothing else", x.count(3), 4);
        due("33: while it RUNS", told(RUNNING).image(), 1);
    }

    /** Promise 34. */
    private static void restore() {
        PushedTillItCatches x = told(STREET + "g5;");
        due("34: there is none", x.restore(), -3);
        x.rolls(1);
        x.tries(1);
        String before = Checks.stateOf(x);
        due("34: it RUNS", x.count(4), 1);
        x.image();
        x.keep(0, 1, 4, 4);
        x.parks(3);
        x.lays(0);
        Checks.tell(x, 1, "p01010;w20;c0;g0;h0;r02;m20;");
        due("34: restore()", x.restore(), 1);
        checks.holds("34: all is as it was", before.equals(Checks.stateOf(x)));
        due("34: WEIGHT", x.set(0, 7), 6);
        due("34: COLD", x.set(1, 7), 4);
        due("34: HAND", x.set(3, 7), 5);
        due("34: SHELVES stay", x.cost(0), 2 + 4 + 5);
        due("34: the text stays", x.element(1, 0), 'p');
        due("34: restore() once more", x.restore(), 1);
        due("34: WEIGHT once more", x.set(0, 7), 6);
        x = told(PLAIN);
        x.image();
        x.rolls(5);
        x.image();
        x.rolls(5);
        due("34: the last image", x.restore(), 5);
        due("34: BREATH then", x.count(6), 35);
        x = told("");
        x.image();
        Checks.tell(x, 0, PLAIN);
        due("34: an empty image", x.restore(), 0);
        due("34: no YARDS", x.count(0), 0);
        due("34: nobody", x.count(1), 0);
        due("34: no YARD", x.yard(0, 0), -1);
    }

    /** Promise 35. */
    private static void count() {
        PushedTillItCatches x = told(STREET + "g2;r03;");
        int[] due = {9, 3, 3, 16, 0, 2, 19, 41};
        for (int what = 0; what < 8; what++) {
            due("35: count(" + what + ")", x.count(what), due[what]);
        }
        due("35: count(-1)", x.count(-1), -1);
        due("35: count(8)", x.count(8), -1);
        due("35: count(MIN)", x.count(MIN), -1);
        due("35: it RUNS", told(RUNNING).count(4), 1);
    }

    /** Promise 36. */
    private static void keep() {
        PushedTillItCatches x = told("");
        due("36: keep(7, 1, 7, 9)", x.keep(7, 1, 7, 9), 0);
        due("36: it is held", x.cost(7), 10);
        due("36: keep(7, 1, 8, 0)", x.keep(7, 1, 8, 0), -1);
        due("36: keep(7, 1, -1, 0)", x.keep(7, 1, -1, 0), -1);
        due("36: keep(7, 1, 0, 10)", x.keep(7, 1, 0, 10), -1);
        due("36: keep(7, 1, 0, -1)", x.keep(7, 1, 0, -1), -1);
        due("36: keep(7, 2, 0, 0)", x.keep(7, 2, 0, 0), -1);
        due("36: keep(7, -1, 0, 0)", x.keep(7, -1, 0, 0), -1);
        due("36: it is held still", x.cost(7), 10);
        due("36: keep(7, 0, 99, -99)", x.keep(7, 0, 99, -99), 0);
        due("36: nothing is held", x.cost(7), -11);
        due("36: keep(8, 0, 0, 0)", x.keep(8, 0, 0, 0), -1);
        due("36: keep(-1, 1, 0, 0)", x.keep(-1, 1, 0, 0), -1);
        x.row(0, 1, 5);
        due("36: in place of a row", x.keep(0, 1, 0, 0), 0);
        due("36: no row any more", x.put(0, 0, 1), -12);
        x.row(0, 1, 5);
        due("36: nothing in place of a row", x.keep(0, 0, 0, 0), 0);
        due("36: nothing is there", x.put(0, 0, 1), -11);
    }

    /** Promise 37. */
    private static void row() {
        PushedTillItCatches x = told("");
        due("37: row(0, 0, 100)", x.row(0, 0, 100), 0);
        due("37: the last element", x.element(0, 99), 0);
        due("37: row(0, 0, 101)", x.row(0, 0, 101), -1);
        due("37: row(0, 0, -1)", x.row(0, 0, -1), -14);
        due("37: row(0, 0, MIN)", x.row(0, 0, MIN), -14);
        due("37: row(0, 3, -1)", x.row(0, 3, -1), -1);
        due("37: row(0, 3, 1)", x.row(0, 3, 1), -1);
        due("37: row(0, -1, 1)", x.row(0, -1, 1), -1);
        due("37: row(8, 0, -1)", x.row(8, 0, -1), -1);
        due("37: row(-1, 0, 1)", x.row(-1, 0, 1), -1);
        x.put(0, 0, 77);
        x.put(0, 99, 77);
        due("37: it is held still", x.element(0, 99), 77);
        due("37: row(0, 2, 100)", x.row(0, 2, 100), 0);
        due("37: 0 at first", x.element(0, 99), 0);
        due("37: 0 at first, too", x.element(0, 0), 0);
        due("37: row(0, 2, 0)", x.row(0, 2, 0), 0);
        due("37: no place", x.put(0, 0, 1), -13);
        x.keep(1, 1, 0, 0);
        due("37: in place of a YARD", x.row(1, 0, 1), 0);
        due("37: no YARD any more", x.cost(1), -12);
    }

    /** Promise 38. */
    private static void put() {
        PushedTillItCatches x = told("");
        int[] values = {0, 127, 128, 255, 256, -129, 32767, 32768, 70000, -70000, MAX, MIN};
        for (int sort = 0; sort < 3; sort++) {
            x.row(0, sort, values.length);
            for (int i = 0; i < values.length; i++) {
                due("38: put(0, " + i + ", v)", x.put(0, i, values[i]), 0);
            }
            for (int i = 0; i < values.length; i++) {
                long kept = sort == 0 ? (byte) values[i] : sort == 1 ? (short) values[i] : values[i];
                due("38: SORT " + sort + " of " + values[i], x.element(0, i), kept);
            }
        }
        due("38: put(0, -1, 1)", x.put(0, -1, 1), -13);
        due("38: put(0, 12, 1)", x.put(0, 12, 1), -13);
        due("38: put(0, MAX, 1)", x.put(0, MAX, 1), -13);
        due("38: put(-1, 0, 1)", x.put(-1, 0, 1), -1);
        due("38: put(8, 0, 1)", x.put(8, 0, 1), -1);
        due("38: put(1, 0, 1)", x.put(1, 0, 1), -11);
        x.keep(1, 1, 0, 0);
        due("38: put(1, 99, 1)", x.put(1, 99, 1), -12);
    }

    private static int thrown(PushedTillItCatches x, int d, int i) {
        try {
            x.element(d, i);
            return 0;
        } catch (IllegalArgumentException e) {
            return 1;
        } catch (IllegalStateException e) {
            return 2;
        }
    }

    /** Promise 39. */
    private static void element() {
        PushedTillItCatches x = told("");
        Checks.fill(x, 7, 2, 5, MIN, MAX);
        due("39: element(7, 0)", x.element(7, 0), 5);
        due("39: element(7, 1)", x.element(7, 1), MIN);
        due("39: element(7, 2)", x.element(7, 2), MAX);
        due("39: element(7, 3) throws", thrown(x, 7, 3), 2);
        due("39: element(7, -1) throws", thrown(x, 7, -1), 2);
        due("39: element(8, 0) throws", thrown(x, 8, 0), 1);
        due("39: element(-1, -1) throws", thrown(x, -1, -1), 1);
        due("39: element(0, 0) of nothing throws", thrown(x, 0, 0), 2);
        x.keep(0, 1, 0, 0);
        due("39: element(0, 0) of a YARD throws", thrown(x, 0, 0), 2);
    }

    /** Promise 40. */
    private static void copy() {
        PushedTillItCatches x = told("");
        Checks.fill(x, 0, 1, 1, 2, 3, 4, 5);
        Checks.fill(x, 1, 1, 9, 9, 9);
        due("40: copy(0, 1, 1, 0, 3)", x.copy(0, 1, 1, 0, 3), 3);
        due("40: the first", x.element(1, 0), 2);
        due("40: the last", x.element(1, 2), 4);
        due("40: it stays", x.element(0, 1), 2);
        due("40: all of it", x.copy(0, 0, 0, 0, 5), 5);
        due("40: on itself, onward", x.copy(0, 0, 0, 1, 4), 4);
        int[] onward = {1, 1, 2, 3, 4};
        for (int i = 0; i < 5; i++) {
            due("40: onward, element " + i, x.element(0, i), onward[i]);
        }
        due("40: on itself, back", x.copy(0, 2, 0, 0, 3), 3);
        int[] back = {2, 3, 4, 3, 4};
        for (int i = 0; i < 5; i++) {
            due("40: back, element " + i, x.element(0, i), back[i]);
        }
        due("40: nothing", x.copy(0, 5, 1, 3, 0), 0);
        due("40: nothing, beyond", x.copy(0, 6, 1, 3, 0), -13);
        due("40: nothing, beyond", x.copy(0, 5, 1, 4, 0), -13);
        due("40: n below 0", x.copy(0, 0, 1, 0, -1), -13);
        due("40: i below 0", x.copy(0, -1, 1, 0, 1), -13);
        due("40: j below 0", x.copy(0, 0, 1, -1, 1), -13);
        due("40: too many there", x.copy(0, 0, 1, 0, 4), -13);
        due("40: too many here", x.copy(0, 3, 1, 0, 3), -13);
        due("40: far too many", x.copy(0, 1, 1, 1, MAX), -13);
        due("40: far away", x.copy(0, MAX, 1, 0, 1), -13);
        due("40: nothing changed", x.element(1, 0), 2);
        due("40: copy(-1, 0, 1, 0, 1)", x.copy(-1, 0, 1, 0, 1), -1);
        due("40: copy(0, 0, 8, 0, 1)", x.copy(0, 0, 8, 0, 1), -1);
        due("40: copy(2, 0, 8, 0, 1)", x.copy(2, 0, 8, 0, 1), -1);
        due("40: copy(2, 0, 0, 0, 1)", x.copy(2, 0, 0, 0, 1), -11);
        due("40: copy(0, 0, 2, 0, 1)", x.copy(0, 0, 2, 0, 1), -11);
        x.keep(3, 1, 0, 0);
        due("40: copy(3, 0, 2, 0, 1)", x.copy(3, 0, 2, 0, 1), -11);
        due("40: copy(3, 0, 0, 0, 1)", x.copy(3, 0, 0, 0, 1), -12);
        due("40: copy(0, 0, 3, 0, 1)", x.copy(0, 0, 3, 0, 1), -12);
        x.row(3, 2, 3);
        due("40: of another SORT", x.copy(0, 0, 3, 0, 9), -12);
    }

    /** Promise 41. */
    private static void cost() {
        PushedTillItCatches x = told("");
        for (int figure = 0; figure < 10; figure++) {
            int[] costs = {2, 2 + figure, 2 * (2 + figure), 5, 2 + figure + 5, 2, 1, 1 + figure};
            for (int kind = 0; kind < 8; kind++) {
                x.keep(6, 1, kind, figure);
                due("41: COST of " + kind + " with " + figure, x.cost(6), costs[kind]);
            }
        }
        due("41: cost(-1)", x.cost(-1), -1);
        due("41: cost(8)", x.cost(8), -1);
        due("41: cost of nothing", x.cost(0), -11);
        x.row(0, 0, 1);
        due("41: cost of a row", x.cost(0), -12);
    }

    /** Promise 42. */
    private static void toss() {
        PushedTillItCatches x = told("");
        for (int figure = 1; figure < 10; figure++) {
            int[] failures = {figure, 100 + figure, 100 + figure, figure, 200 + 2 + figure + 5, figure, -15, -15};
            for (int kind = 0; kind < 8; kind++) {
                x.keep(6, 1, kind, figure);
                due("42: FAILURE of " + kind + " with " + figure, x.toss(6), failures[kind]);
            }
        }
        for (int kind = 0; kind < 8; kind++) {
            x.keep(6, 1, kind, 0);
            due("42: FAILURE of " + kind + " with 0", x.toss(6), -15);
        }
        due("42: toss(-1)", x.toss(-1), -1);
        due("42: toss(8)", x.toss(8), -1);
        due("42: toss of nothing", x.toss(0), -11);
        x.row(0, 0, 1);
        due("42: toss of a row", x.toss(0), -12);
    }
}
