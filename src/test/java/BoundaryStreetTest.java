import java.io.IOException;

/** Boundaries of promises 1 to 10: the street as told. */
public final class BoundaryStreetTest {
    private static final int MIN = Streets.MIN;
    private static final int MAX = Streets.MAX;
    private static final String PLAIN = Streets.PLAIN;
    private static final String RUNNING = Streets.RUNNING;
    private static final String TWENTY = Streets.TWENTY;
    /** The STATEMENTS as they look, a 0 for each digit. */
    private static final String[] SHAPES = {"y00;", "p00000;", "w00;", "c0;", "g0;", "h0;", "r00;", "t0;", "m00;"};

    private static Sentences document;

    public static void main(String[] args) throws IOException {
        document = new Sentences("BoundaryStreetTest");
        newObject();
        emptyStreet();
        shapesOfStatements();
        placesOfShapeFaults();
        rangesInStatements();
        statementsThatCanNotBe();
        allOrNothing();
        streetOfShelf();
        yardNumbers();
        yardKinds();
        pusher();
        lays();
        set();
        parks();
        rollsNumbers();
        rollsPace();
        rollsPush();
        rollsGrip();
        rollsAtTheEnd();
        tries();
        triesOnTheCurve();
        triesBehind();
        waits();
        document.end(1, 10);
    }

    private static void due(String call, long got, long want) {
        document.due(call, got, want);
    }

    private static PushedTillItCatches told(String text) {
        return Checks.told(text);
    }

    private static void newObject() {
        PushedTillItCatches x = new PushedTillItCatches();
        document.says(1, "No YARDS, nobody.");
        due("count(0)", x.count(0), 0);
        due("count(1)", x.count(1), 0);
        due("yard(0, 0)", x.yard(0, 0), -1);
        due("pusher(0, 0)", x.pusher(0, 0), -1);
        document.says(1, "WEIGHT (1 .. 20; 8 at first), COLD (0 .. 9; 3 at first), "
                + "GAS (0 .. 9; 0 at first), HAND (0 .. 9; 0 at first). ");
        due("set(0, 1)", x.set(0, 1), 8);
        due("set(1, 0)", x.set(1, 0), 3);
        due("set(2, 0)", x.set(2, 0), 0);
        due("set(3, 0)", x.set(3, 0), 0);
        document.says(1, "AT (0 at first: ahead of YARD 0), PACE (0 .. 24; 0 at first), whether it RUNS (not at first).");
        due("count(2)", x.count(2), 0);
        due("count(3)", x.count(3), 0);
        due("count(4)", x.count(4), 0);
        document.says(1, "SHELVES 0 .. 7 each hold nothing (at first)");
        for (int d = 0; d < 8; d++) {
            due("put(" + d + ", 0, 0)", x.put(d, 0, 0), -11);
            due("cost(" + d + ")", x.cost(d), -11);
        }
        document.says(1, "An object is used for at most 512 calls after it has been made");
        x = new PushedTillItCatches();
        for (int call = 1; call < 512; call++) {
            due("call " + call, x.set(1, call % 10), call == 1 ? 3 : (call - 1) % 10);
        }
        due("call 512", x.set(1, 0), 511 % 10);
    }

    /** Each call has its answer where there is no YARD and nobody. */
    private static void emptyStreet() {
        PushedTillItCatches x = new PushedTillItCatches();
        document.says(1, "AT the end (as many as YARDS) nothing rolls.");
        due("parks(0)", x.parks(0), 0);
        due("rolls(1)", x.rolls(1), -3);
        due("behind(40, 0)", x.behind(40, 0), 0);
        due("behind(40, 1)", x.behind(40, 1), 0);
        due("behind(40, 2)", x.behind(40, 2), 0);
        due("catches(0)", x.catches(0), -4);
        due("inGear(1)", x.inGear(1), -4);
        due("who()", x.who(), -4);
        due("leaveOne()", x.leaveOne(), -4);
        due("alone()", x.alone(), -4);
        due("pushUp(0)", x.pushUp(0), -4);
        due("howLong()", x.howLong(), -4);
        due("hand()", x.hand(), -4);
        due("showing()", x.showing(), -4);
        due("park()", x.park(), -4);
        due("downTo()", x.downTo(), 0);
        due("safe()", x.safe(), 1);
        due("gettingIn(3)", x.gettingIn(3), -4);
        due("mornings(20, 1, 0)", x.mornings(20, 1, 0), 0);
        due("mornings(20, 1, 1)", x.mornings(20, 1, 1), 0);
        due("image()", x.image(), 0);
        due("waits(60)", x.waits(60), 0);
        due("tries(1)", x.tries(1), 0);
        due("count(5)", x.count(5), 1);
        due("restore()", x.restore(), 0);
        due("count(5)", x.count(5), 0);
    }

    // ---- promise 2

    private static int street(String text) {
        return Checks.tell(new PushedTillItCatches(), 0, text);
    }

    private static void shape(String text, int place) {
        due("street of '" + text + "'", street(text), -1000 - place);
    }

    private static void shapesOfStatements() {
        document.says(2, "STATEMENTS, each with \";\" behind, one at least");
        shape("", 0);
        shape(";", 0);
        due("street of one", street("c0;"), 1);
        due("street of 33", street("c1;".repeat(32) + "w08;"), 33);
        document.says(2, "numbers in THE TEXT have just as many digits as told");
        for (String shape : SHAPES) {
            int end = shape.length() - 1;
            for (int cut = 1; cut <= end; cut++) {
                shape(shape.substring(0, cut), cut);
                shape("c1;" + shape.substring(0, cut), 3 + cut);
            }
            shape(shape.substring(0, end) + "0;", end);
            shape(shape.substring(0, end - 1) + ";", end - 1);
        }
        document.says(2, "\"y\" KIND, FIGURE (a digit each): a YARD more");
        for (String shape : SHAPES) {
            for (int place = 1; place < shape.length() - 1; place++) {
                // The signs beside the digits, and a 0 and a 9 that have one bit too many.
                for (int off : new int[] {'/', ':', '-', ' ', 0, '0' - 128, '9' - 128, 127, -128}) {
                    shapeWith(shape, place, off);
                }
            }
            for (int off : new int[] {':', '<', 0, ';' - 128, '0'}) {
                shapeWith(shape, shape.length() - 1, off);
            }
        }
    }

    /** A byte of a STATEMENT is another one: the place of it is told. */
    private static void shapeWith(String shape, int place, int off) {
        int[] bytes = shape.chars().toArray();
        bytes[place] = off;
        PushedTillItCatches x = new PushedTillItCatches();
        Checks.fill(x, 0, 0, bytes);
        due(shape + " with " + off + " at " + place, x.street(0), -1000 - place);
    }

    private static void placesOfShapeFaults() {
        document.says(2, "kind 1 the place of the first byte with which no STREET can go on");
        for (int letter = -128; letter < 128; letter++) {
            if (letter < 0 || "ypwcghrtm".indexOf(letter) < 0) {
                PushedTillItCatches x = new PushedTillItCatches();
                Checks.fill(x, 0, 0, 'c', '1', ';', letter, ';');
                due("the letter " + letter, x.street(0), -1003);
            }
        }
        shape("y00;y0x;c1;q", 6);
        document.says(2, "(the end, if something lacks): -1000 less the place");
        shape("y", 1);
        shape("y00;".repeat(24) + "y00", 99);
        shape("c1;".repeat(32) + "y00", 99);
        shape("c1;".repeat(32) + "p120", 100);
        shape("c1;".repeat(33) + "m", 100);
        shape("c1;".repeat(33) + "?", 99);
        shape("c1;".repeat(32) + "c1;?", 99);
        document.says(2, "FAULT: kind 1 the place");
        // However early a FAULT of kind 2 stands: kind 1 comes first.
        shape("y80;q", 4);
        shape("w00;t4;r00;m6", 13);
        shape("y00;".repeat(20) + "y00;c", 85);
        document.says(2, "A ROW has a SORT (0 bytes, 1 shorts, 2 ints) and 0 .. 100 elements");
        due("street of 100 bytes", street("c1;".repeat(32) + "y00;"), 33);
        due("street of 100 bytes, a YARD too many", street("y00;".repeat(25)), -2080);
    }

    /** A STATEMENT may be on a street with a YARD ahead, where it does not RUN. */
    private static void may(String statement) {
        due("street of '" + statement + "'", Checks.tell(told("y00;"), 0, statement), 1);
    }

    private static void mayNot(String beginning, String text, int place) {
        due("street of '" + text + "' behind '" + beginning + "'", Checks.tell(told(beginning), 0, text), -2000 - place);
    }

    private static void rangesInStatements() {
        document.says(2, "a number out of range");
        for (String statement : new String[] {
            "y00;", "y79;", "p00000;", "p20401;", "w01;", "w20;", "c0;", "c9;", "g0;", "g9;", "h0;", "h9;", "r01;",
            "r20;", "t1;", "t3;", "m01;", "m60;"}) {
            may(statement);
        }
        for (String statement : new String[] {
            "y80;", "y99;", "p21000;", "p99000;", "p00410;", "p00990;", "p00002;", "p00009;", "w00;", "w21;", "w99;",
            "r00;", "r21;", "r99;", "t0;", "t4;", "t9;", "m00;", "m61;", "m99;"}) {
            mayNot("y00;", statement, 0);
            mayNot("y00;", "c1;" + statement + "c2;", 3);
        }
        document.says(2, "\"p\" STRENGTH, BREATH (2 digits each), SHOES (a digit): a PUSHER more");
        PushedTillItCatches x = told("p20401;p09010;p00000;");
        int[][] pushers = {{20, 40, 1}, {9, 1, 0}, {0, 0, 0}};
        for (int p = 0; p < 3; p++) {
            for (int what = 0; what < 3; what++) {
                due("pusher(" + p + ", " + what + ")", x.pusher(p, what), pushers[p][what]);
            }
        }
    }

    private static void statementsThatCanNotBe() {
        document.says(2, "YARDS rolled, a TRY, a WAIT while it RUNS");
        for (String statement : new String[] {"r01;", "r20;", "t1;", "t3;", "m01;", "m60;"}) {
            mayNot(RUNNING + "y00;", statement, 0);
            mayNot("", RUNNING + "y00;" + statement, RUNNING.length() + 4);
        }
        for (String statement : new String[] {"y00;", "p01010;", "w01;", "c1;", "g1;", "h1;"}) {
            due("street of '" + statement + "' while it RUNS", Checks.tell(told(RUNNING), 0, statement), 1);
        }
        document.says(2, "YARDS rolled AT the end");
        mayNot("", "r01;", 0);
        mayNot("y49;", "r01;r01;", 4);
        mayNot("y49;", "r20;c1;r20;", 7);
        due("street of a YARD laid and rolled", Checks.tell(told("y49;r01;"), 0, "y00;r01;"), 2);
        document.says(2, "no room)");
        due("street of the 20th YARD", Checks.tell(told(TWENTY.substring(4)), 0, "y00;"), 1);
        mayNot(TWENTY, "y00;", 0);
        mayNot(TWENTY.substring(4), "c1;y00;y00;", 7);
        due("street of the fifth PUSHER", Checks.tell(told("p01010;".repeat(4)), 0, "p01010;"), 1);
        mayNot("p01010;".repeat(5), "p01010;", 0);
        mayNot("p01010;".repeat(4), "p00000;p00000;", 7);
        document.says(2, "(YARDS that are told to be rolled: AT the end the rest of them is nothing, "
                + "as long as it was not there at first.)");
        PushedTillItCatches x = told("y49;y00;p01400;");
        due("street of r20", Checks.tell(x, 0, "r20;"), 1);
        due("AT", x.count(2), 2);
        due("PACE", x.count(3), 6);
        due("BREATH", x.count(6), 38);
        document.says(2, "STATEMENTS are tried one behind the other, each on what those ahead of it made");
        due("rolled once there is a YARD", street("y00;r01;"), 2);
        due("r01 ahead of the YARD", street("r01;y00;"), -2000);
        due("a TRY that is DROWNED", street("y49;r01;g6;t1;t1;"), 5);
        due("a TRY behind one that is CAUGHT", street("y49;r01;g5;t1;t1;"), -2014);
        document.says(2, "and the first that can't be done so is told (kind 2)");
        due("three that can't be", street("c1;y80;w00;t9;"), -2003);
        due("the last alone", street("y00;p20401;w20;c9;g9;h9;r20;t3;m60;w21;"), -2035);
    }

    private static void allOrNothing() {
        document.says(2, "Without FAULT all of it comes, with one nothing.");
        String text = "y00;p01011;w02;c8;g7;h6;r01;t1;m60;";
        for (String fault : new String[] {"q", "y0", "y80;", "r00;", "m61;", "t0;"}) {
            int place = text.length() + (fault.equals("y0") ? 2 : 0);
            int kind = fault.endsWith(";") ? -2000 : -1000;
            document.leavesAll("street of a text that ends in " + fault, () -> withText(text + fault),
                    x -> x.street(6), kind - place);
        }
        PushedTillItCatches x = withText(text);
        due("street without FAULT", x.street(6), 9);
        due("YARDS", x.count(0), 10);
        due("PUSHERS", x.count(1), 4);
        due("WEIGHT", x.set(0, 1), 2);
        document.says(2, "The ROW of a text, and what is taken from a SHELF, stay there");
        for (int i = 0; i < text.length(); i++) {
            due("element(6, " + i + ")", x.element(6, i), text.charAt(i));
        }
    }

    private static PushedTillItCatches withText(String text) {
        PushedTillItCatches x = Streets.busy();
        Checks.fill(x, 6, 0, text.chars().toArray());
        return x;
    }

    private static void streetOfShelf() {
        document.says(2, "The text in SHELF d: how many STATEMENTS; the FAULT. -1, -11, -12 (no ROW of bytes).");
        for (int d : new int[] {MIN, -1, 8, MAX}) {
            document.leavesAll("street(" + d + ")", Streets::busy, x -> x.street(d), -1);
        }
        document.leavesAll("street of nothing", Streets::busy, x -> x.street(7), -11);
        document.leavesAll("street of a YARD", Streets::busy, x -> x.street(5), -12);
        document.leavesAll("street of shorts", Streets::busy, x -> x.street(2), -12);
        document.leavesAll("street of no shorts", Streets::busy, x -> x.street(4), -12);
        document.leavesAll("street of ints", Streets::busy, x -> x.street(3), -12);
        document.leavesAll("street of no text", Streets::busy, x -> x.street(1), -1000);
        for (int d : new int[] {0, 7}) {
            due("street(" + d + ")", Checks.tell(new PushedTillItCatches(), d, "c1;"), 1);
        }
    }

    // ---- promise 3

    private static void yardNumbers() {
        document.says(3, "Of a YARD: KIND (what 0), FIGURE (1), GIVES and 10 (2), GRIP (3). -1.");
        PushedTillItCatches x = told("y29;" + TWENTY.substring(8) + "y48;");
        int[][] due = {{2, 9, 6, 6}, {4, 8, 16, 10}};
        for (int what = 0; what < 4; what++) {
            due("yard(0, " + what + ")", x.yard(0, what), due[0][what]);
            due("yard(19, " + what + ")", x.yard(19, what), due[1][what]);
            due("yard(-1, " + what + ")", x.yard(-1, what), -1);
            due("yard(20, " + what + ")", x.yard(20, what), -1);
        }
        due("yard(1, 0) of one", told("y00;").yard(1, 0), -1);
        for (int number : new int[] {MIN, -1, 4, MAX}) {
            due("yard(0, " + number + ")", x.yard(0, number), -1);
        }
        due("yard(MIN, 0)", x.yard(MIN, 0), -1);
        due("yard(MAX, 0)", x.yard(MAX, 0), -1);
        document.says(3, "REFUSALS (answers; nothing changes)");
        document.leavesAll("yard(9, 0)", Streets::busy, y -> y.yard(9, 0), -1);
        document.leavesAll("yard(8, 4)", Streets::busy, y -> y.yard(8, 4), -1);
        document.leavesAll("yard(8, 3)", Streets::busy, y -> y.yard(8, 3), 0);
    }

    /** GIVES and GRIP of a KIND, for FIGURES 0 to 9. */
    private static void gives(int kind, int... gives) {
        for (int figure = 0; figure < 10; figure++) {
            due("GIVES of " + kind + figure, told("y" + kind + figure + ";").yard(0, 2) - 10, gives[figure]);
        }
    }

    private static void grip(int kind, int... grip) {
        for (int figure = 0; figure < 10; figure++) {
            due("GRIP of " + kind + figure, told("y" + kind + figure + ";").yard(0, 3), grip[figure]);
        }
    }

    private static void yardKinds() {
        document.says(3, "GIVES (to PACE): YARD 0");
        gives(0, 0, 0, 0, 0, 0, 0, 0, 0, 0, 0);
        document.says(3, "DOWN 1 and a third of FIGURE, cut");
        gives(1, 1, 1, 1, 2, 2, 2, 3, 3, 3, 4);
        document.says(3, "UP a DOWN's below 0 (its sign turned)");
        gives(2, -1, -1, -1, -2, -2, -2, -3, -3, -3, -4);
        document.says(3, "STEEP twice a DOWN's");
        gives(4, 2, 2, 2, 4, 4, 4, 6, 6, 6, 8);
        document.says(3, "ICY 1 more than a WET's; CHURCH 1 less");
        gives(5, 1, 1, 1, 1, 1, 1, 1, 1, 1, 1);
        gives(7, -1, -1, -1, -1, -1, -1, -1, -1, -1, -1);
        document.says(3, "others as what they are under. GRIP");
        gives(3, 0, 0, 0, 0, 0, 0, 0, 0, 0, 0);
        gives(6, 0, 0, 0, 0, 0, 0, 0, 0, 0, 0);
        document.says(3, "GRIP (tenths): YARD 10; UP FIGURE by 2, cut, less");
        grip(0, 10, 10, 10, 10, 10, 10, 10, 10, 10, 10);
        grip(2, 10, 10, 9, 9, 8, 8, 7, 7, 6, 6);
        document.says(3, "WET 5 less; ICY a WET's by 5, cut; CROSSING 0");
        grip(3, 5, 5, 5, 5, 5, 5, 5, 5, 5, 5);
        grip(5, 1, 1, 1, 1, 1, 1, 1, 1, 1, 1);
        grip(6, 0, 0, 0, 0, 0, 0, 0, 0, 0, 0);
        document.says(3, "CROSSING 0; others as what they are under.");
        grip(1, 10, 10, 10, 10, 10, 10, 10, 10, 10, 10);
        grip(4, 10, 10, 10, 10, 10, 10, 10, 10, 10, 10);
        grip(7, 0, 0, 0, 0, 0, 0, 0, 0, 0, 0);
    }

    // ---- promises 4 to 7

    private static void pusher() {
        document.says(4, "Of a PUSHER: STRENGTH (what 0), BREATH (1), SHOES (2). -1.");
        PushedTillItCatches x = told("p20401;p01000;p01000;p01000;p00000;");
        int[][] due = {{20, 40, 1}, {0, 0, 0}};
        for (int what = 0; what < 3; what++) {
            due("pusher(0, " + what + ")", x.pusher(0, what), due[0][what]);
            due("pusher(4, " + what + ")", x.pusher(4, what), due[1][what]);
            due("pusher(-1, " + what + ")", x.pusher(-1, what), -1);
            due("pusher(5, " + what + ")", x.pusher(5, what), -1);
        }
        for (int number : new int[] {MIN, -1, 3, MAX}) {
            due("pusher(0, " + number + ")", x.pusher(0, number), -1);
        }
        due("pusher(MIN, 0)", x.pusher(MIN, 0), -1);
        due("pusher(MAX, 0)", x.pusher(MAX, 0), -1);
        document.says(4, "REFUSALS (answers; nothing changes): -1 no such one");
        document.leavesAll("pusher(3, 0)", Streets::busy, y -> y.pusher(3, 0), -1);
        document.leavesAll("pusher(2, 3)", Streets::busy, y -> y.pusher(2, 3), -1);
        document.leavesAll("pusher(2, 0)", Streets::busy, y -> y.pusher(2, 0), 20);
        document.says(4, "each of these has BREATH 1 less then");
        due("BREATH goes to 0", told("y00;p01010;r01;").pusher(0, 1), 0);
        due("BREATH stays 0", told("y00;p01000;r01;").pusher(0, 1), 0);
    }

    private static void lays() {
        document.says(5, "The one on SHELF d is a YARD more: its number. -1, -11, -12 (a ROW), -2.");
        for (int d : new int[] {MIN, -1, 8, MAX}) {
            document.leavesAll("lays(" + d + ")", Streets::busy, x -> x.lays(d), -1);
        }
        document.leavesAll("lays of nothing", Streets::busy, x -> x.lays(6), -11);
        for (int d = 1; d <= 4; d++) {
            int row = d;
            document.leavesAll("lays of row " + d, Streets::busy, x -> x.lays(row), -12);
        }
        document.says(5, "YARDS 0 .. as they come (20 at most)");
        PushedTillItCatches x = new PushedTillItCatches();
        x.keep(7, 1, 4, 6);
        for (int y = 0; y < 20; y++) {
            due("lays(7)", x.lays(7), y);
            due("KIND", x.yard(y, 0), 4);
            due("FIGURE", x.yard(y, 1), 6);
        }
        due("lays(7)", x.lays(7), -2);
        document.leavesAll("the 21st", Streets::full, y -> y.lays(0), -2);
        document.says(5, "Answers of several REFUSALS are the first one as they are told at the call.");
        document.leavesAll("no SHELF, no room", Streets::full, y -> y.lays(8), -1);
        document.leavesAll("nothing held, no room", Streets::full, y -> y.lays(7), -11);
        document.leavesAll("a ROW, no room", Streets::full, y -> y.lays(4), -12);
        document.says(5, "what is taken from a SHELF, stay there");
        due("cost(7)", x.cost(7), 13);
        document.says(5, "AT the end (as many as YARDS) nothing rolls.");
        x = told("y49;r01;");
        x.keep(0, 1, 0, 0);
        due("rolls(1) ahead", x.rolls(1), -3);
        due("lays(0)", x.lays(0), 1);
        due("rolls(1) behind", x.rolls(1), 6);
    }

    private static void set() {
        document.says(6, "WEIGHT (what 0), COLD (1), GAS (2), HAND (3) becomes v: what it was. -1.");
        for (int what = 0; what < 4; what++) {
            int one = what;
            int least = what == 0 ? 1 : 0;
            int most = what == 0 ? 20 : 9;
            for (int v : new int[] {MIN, -1, least - 1, most + 1, MAX}) {
                document.leavesAll("set(" + what + ", " + v + ")", Streets::busy, x -> x.set(one, v), -1);
            }
            PushedTillItCatches x = told("w07;c7;g7;h7;");
            due("set(" + what + ", least)", x.set(what, least), 7);
            due("set(" + what + ", most)", x.set(what, most), least);
            due("set(" + what + ", 3)", x.set(what, 3), most);
            for (int other = 0; other < 4; other++) {
                due("the other, " + other, x.set(other, 1), other == what ? 3 : 7);
            }
        }
        for (int what : new int[] {MIN, -1, 4, MAX}) {
            document.leavesAll("set(" + what + ", 5)", Streets::busy, x -> x.set(what, 5), -1);
        }
        due("set(1, 9) while it RUNS", told(RUNNING).set(1, 9), 3);
    }

    private static void parks() {
        document.says(7, "AT becomes a number (0 .. YARDS), PACE 0, it does not RUN: what it was. -1.");
        for (int at : new int[] {MIN, -1, 10, MAX}) {
            document.leavesAll("parks(" + at + ")", Streets::busy, x -> x.parks(at), -1);
            document.leavesAll("parks(" + at + ") while it RUNS", Streets::busyRunning, x -> x.parks(at), -1);
        }
        document.leavesAll("parks(21)", Streets::full, x -> x.parks(21), -1);
        PushedTillItCatches x = Streets.busyRunning();
        due("parks(9)", x.parks(9), 3);
        due("AT", x.count(2), 9);
        due("PACE", x.count(3), 0);
        due("RUNS", x.count(4), 0);
        due("parks(0)", x.parks(0), 9);
        due("parks(0) where it is", x.parks(0), 0);
        x = Streets.full();
        due("parks(20)", x.parks(20), 20);
        due("PACE where it is", x.count(3), 0);
        due("parks(0) without YARDS", told("").parks(0), 0);
        due("parks(1) without YARDS", told("").parks(1), -1);
        due("BREATHS stay", x.count(6), 20 + 20);
    }

    // ---- promise 8

    private static void rollsNumbers() {
        document.says(8, "n YARDS (1 .. 20) are rolled: PACE. -1, -3 (RUNS, AT the end).");
        for (int n : new int[] {MIN, -1, 0, 21, MAX}) {
            document.leavesAll("rolls(" + n + ")", Streets::busy, x -> x.rolls(n), -1);
            document.leavesAll("rolls(" + n + ") while it RUNS", Streets::busyRunning, x -> x.rolls(n), -1);
            document.leavesAll("rolls(" + n + ") AT the end", Streets::full, x -> x.rolls(n), -1);
        }
        for (int n : new int[] {1, 20}) {
            document.leavesAll("rolls(" + n + ") while it RUNS", Streets::busyRunning, x -> x.rolls(n), -3);
            document.leavesAll("rolls(" + n + ") AT the end", Streets::full, x -> x.rolls(n), -3);
        }
        due("rolls(1)", told(TWENTY + "p16400;").rolls(1), 1);
        due("rolls(19)", told(TWENTY + "p16400;").rolls(19), 19);
        PushedTillItCatches x = told(TWENTY + "p16400;");
        due("rolls(20)", x.rolls(20), 20);
        due("AT", x.count(2), 20);
        due("BREATH", x.count(6), 20);
        due("rolls(1) once more", x.rolls(1), -3);
    }

    private static void rollsPace() {
        document.says(8, "A YARD: PACE is GIVES and PUSH by WEIGHT, cut, more, 1 less (0 .. 24)");
        // STEEP ones give 8: 7, 14, 21, 28 is too much.
        due("24 at most", told("y49;".repeat(4)).rolls(4), 24);
        due("24 at most, once more", told("y49;".repeat(5)).rolls(5), 24);
        due("24 exactly", told("y00;p20010;p05010;w01;").rolls(1), 24);
        due("25 is too much", told("y00;p20010;p06010;w01;").rolls(1), 24);
        due("23", told("y00;p20010;p04010;w01;").rolls(1), 23);
        due("far too much", told("y49;" + "p20400;".repeat(5) + "w01;").rolls(1), 24);
        due("0 at least", told("y00;").rolls(1), 0);
        due("far below 0", told("y49;y29;y29;").rolls(3), 0);
        document.says(8, "if it is above 0 then, AT is 1 more; else it stands.");
        // DOWN with 3 gives 2, UP with 0 takes 1: PACE 1, then 0 on the way UP.
        PushedTillItCatches x = told("y13;y20;");
        due("above 0 by 1", x.rolls(1), 1);
        due("AT", x.count(2), 1);
        due("0", x.rolls(1), 0);
        due("AT as it stands", x.count(2), 1);
        due("it stands on", x.rolls(20), 0);
        due("AT as it stands on", x.count(2), 1);
        x = told("y16;y00;y00;");
        due("PACE 2, 1, 0", x.rolls(3), 0);
        due("AT ahead of the last", x.count(2), 2);
        x = told("y11;");
        due("a DOWN that gives 1", x.rolls(1), 0);
        due("AT ahead of it", x.count(2), 0);
    }

    private static void rollsPush() {
        document.says(8, "PUSH in a YARD: of each with BREATH");
        due("BREATH 0", told("y00;p20000;w01;").rolls(1), 0);
        due("BREATH 1", told("y00;p20010;w01;").rolls(1), 19);
        due("BREATH 1, two YARDS", told("y00;y00;p20010;w01;").rolls(2), 18);
        due("one of two", told("y00;p20000;p05010;w01;").rolls(1), 4);
        due("nobody", told("y00;w01;").rolls(1), 0);
        document.says(8, "together; each of these has BREATH 1 less then.");
        PushedTillItCatches x = told("y00;y00;p00400;p10020;p10010;p10000;p04010;");
        // 0, 10, 10 and 4 by WEIGHT 8 are 3, 10 and 0 alone are 1.
        due("of four", x.rolls(1), 2);
        due("of two", x.rolls(1), 2);
        int[] breaths = {38, 0, 0, 0, 0};
        for (int p = 0; p < 5; p++) {
            due("BREATH of " + p, x.pusher(p, 1), breaths[p]);
        }
        x = told("y00;p07030;");
        due("it stands", x.rolls(2), 0);
        due("BREATH as it stands", x.count(6), 1);
        due("it stands on", x.rolls(20), 0);
        due("BREATH is 0 at least", x.count(6), 0);
        document.says(8, "PUSH by WEIGHT, cut");
        due("15 by 8", told("y10;p15010;").rolls(1), 1);
        due("16 by 8", told("y10;p16010;").rolls(1), 2);
        due("7 by 8", told("y10;p07010;").rolls(1), 0);
        due("8 by 8", told("y10;p08010;").rolls(1), 1);
        due("19 by 20", told("y10;p19010;w20;").rolls(1), 0);
        due("100 by 20", told("y10;" + "p20010;".repeat(5) + "w20;").rolls(1), 5);
        due("4 and 4 by 8", told("y10;p04010;p04010;").rolls(1), 1);
        due("20 by 1", told("y10;p20010;w01;").rolls(1), 20);
    }

    private static void rollsGrip() {
        document.says(8, "STRENGTH times GRIP by 10, cut (with SHOES 1 GRIP is 10, unless it is 0)");
        due("GRIP 9, STRENGTH 20", told("y22;p20010;w01;").rolls(1), 18 - 1 - 1);
        due("GRIP 9, STRENGTH 19", told("y22;p19010;w01;").rolls(1), 17 - 1 - 1);
        due("GRIP 9, STRENGTH 9", told("y22;p09010;w01;").rolls(1), 8 - 1 - 1);
        due("GRIP 6, STRENGTH 13", told("y28;p13010;w01;").rolls(1), 7 - 3 - 1);
        due("GRIP 6, SHOES", told("y28;p13011;w01;").rolls(1), 13 - 3 - 1);
        due("GRIP 5, STRENGTH 7", told("y30;p07010;w01;").rolls(1), 3 - 1);
        due("GRIP 5, SHOES", told("y30;p07011;w01;").rolls(1), 7 - 1);
        due("GRIP 1, STRENGTH 20", told("y50;p20010;w01;").rolls(1), 2 + 1 - 1);
        due("GRIP 1, STRENGTH 19", told("y50;p19010;w01;").rolls(1), 1 + 1 - 1);
        due("GRIP 1, STRENGTH 9", told("y50;p09010;w01;").rolls(1), 0);
        due("GRIP 1, SHOES", told("y50;p09011;w01;").rolls(1), 9 + 1 - 1);
        due("GRIP 0, SHOES", told("y60;p20011;w01;").rolls(1), 0);
        due("GRIP 0 of a CHURCH, SHOES", told("y70;p20011;w01;").rolls(1), 0);
        due("GRIP 10, SHOES", told("y00;p20011;w01;").rolls(1), 19);
        due("each is cut alone", told("y50;p19010;p19010;w01;").rolls(1), 2 + 1 - 1);
    }

    private static void rollsAtTheEnd() {
        document.says(8, "AT the end (as many as YARDS) nothing rolls.");
        PushedTillItCatches x = told("y49;p01400;");
        due("rolls(20) of one YARD", x.rolls(20), 7);
        due("AT", x.count(2), 1);
        due("BREATH", x.count(6), 39);
        due("rolls(20) AT the end", x.rolls(20), -3);
        due("PACE", x.count(3), 7);
        due("BREATH stays", x.count(6), 39);
        due("rolls(1) without YARDS", told("p20400;").rolls(1), -3);
    }

    // ---- promise 9

    private static void tries() {
        document.says(9, "A TRY: what comes of it. -1, -3 RUNS.");
        for (int gear : new int[] {MIN, -1, 0, 4, MAX}) {
            document.leavesAll("tries(" + gear + ")", Streets::busy, x -> x.tries(gear), -1);
            document.leavesAll("tries(" + gear + ") while it RUNS", Streets::busyRunning, x -> x.tries(gear), -1);
        }
        for (int gear = 1; gear <= 3; gear++) {
            int one = gear;
            document.leavesAll("tries(" + gear + ") while it RUNS", Streets::busyRunning, x -> x.tries(one), -3);
        }
        document.says(9, "DROWNED (4), if GAS is 6 or more");
        for (int gas = 0; gas < 10; gas++) {
            PushedTillItCatches x = Streets.atPace(6, "g" + gas + ";");
            due("tries(1) with GAS " + gas, x.tries(1), gas >= 6 ? 4 : 3);
            due("PACE", x.count(3), 6);
            due("RUNS", x.count(4), gas >= 6 ? 0 : 1);
        }
        due("ahead of DEAD", Streets.atPace(0, "g6;").tries(1), 4);
        due("ahead of LOCKED", Streets.atPace(24, "g6;").tries(1), 4);
        due("ahead of COUGHS", Streets.atPace(5, "g6;").tries(1), 4);
        document.says(9, "GAS is 1 more (9 at most)");
        for (int gas = 0; gas < 10; gas++) {
            PushedTillItCatches x = Streets.atPace(1, "g" + gas + ";t1;");
            due("GAS behind a TRY with " + gas, x.count(5), Math.min(9, gas + 1));
        }
        due("GAS of LOCKED", Streets.atPace(24, "t1;").count(5), 1);
        due("GAS of COUGHS", Streets.atPace(5, "t1;").count(5), 1);
        due("GAS of CAUGHT", Streets.atPace(6, "g5;t1;").count(5), 5);
        due("by the sixth TRY it is DROWNED", Streets.atPace(6, "t3;t3;t3;t3;t3;t3;").tries(3), 4);
    }

    /** What comes of a TRY at each PACE, in each GEAR, as COLD and HAND stand at their thirds and fourths. */
    private static void triesOnTheCurve() {
        document.says(9, "LOW 4, 6, 11, and a third of COLD, cut, less a fourth of HAND, cut; HIGH 7, 12, 20.");
        int[][] colds = {{0, 0}, {2, 0}, {3, 1}, {5, 1}, {6, 2}, {8, 2}, {9, 3}};
        int[][] hands = {{0, 0}, {3, 0}, {4, 1}, {7, 1}, {8, 2}, {9, 2}};
        int[] lows = {4, 6, 11};
        int[] highs = {7, 12, 20};
        for (int pace = 0; pace <= 24; pace++) {
            for (int[] cold : colds) {
                for (int[] hand : hands) {
                    int gear = 1 + (pace + cold[0] + hand[0]) % 3;
                    int low = lows[gear - 1] + cold[1] - hand[1];
                    int high = highs[gear - 1];
                    int came = pace < low ? 0 : pace > high ? 2 : pace == low ? 1 : 3;
                    String figures = "c" + cold[0] + ";h" + hand[0] + ";";
                    due("tries(" + gear + ") at " + pace + " with " + figures,
                            Streets.atPace(pace, figures).tries(gear), came);
                }
            }
        }
    }

    /** A TRY in a GEAR at a PACE: what comes of it, and PACE then. */
    private static void comes(int gear, int pace, int came, int then) {
        PushedTillItCatches x = Streets.atPace(pace, "");
        due("tries(" + gear + ") at " + pace, x.tries(gear), came);
        due("PACE behind tries(" + gear + ") at " + pace, x.count(3), then);
        due("RUNS behind tries(" + gear + ") at " + pace, x.count(4), came == 3 ? 1 : 0);
        due("AT", x.count(2), pace == 0 ? 0 : 1);
    }

    private static void triesBehind() {
        document.says(9, "else DEAD (0), if PACE is below LOW: PACE by 2, cut");
        comes(1, 4, 0, 2);
        comes(1, 3, 0, 1);
        comes(1, 1, 0, 0);
        comes(1, 0, 0, 0);
        comes(2, 6, 0, 3);
        comes(3, 11, 0, 5);
        document.says(9, "LOCKED (2), if above HIGH: PACE 0");
        comes(1, 8, 2, 0);
        comes(2, 13, 2, 0);
        comes(3, 21, 2, 0);
        comes(1, 24, 2, 0);
        document.says(9, "COUGHS (1), if it is LOW: PACE by 2, cut");
        comes(1, 5, 1, 2);
        comes(2, 7, 1, 3);
        comes(3, 12, 1, 6);
        document.says(9, "else CAUGHT (3): it RUNS.");
        comes(1, 6, 3, 6);
        comes(1, 7, 3, 7);
        comes(2, 8, 3, 8);
        comes(2, 12, 3, 12);
        comes(3, 13, 3, 13);
        comes(3, 20, 3, 20);
    }

    // ---- promise 10

    private static void waits() {
        document.says(10, "A WAIT: GAS. -1, -3 RUNS.");
        for (int minutes : new int[] {MIN, -1, 0, 61, MAX}) {
            document.leavesAll("waits(" + minutes + ")", Streets::busy, x -> x.waits(minutes), -1);
            document.leavesAll("waits(" + minutes + ") while it RUNS", Streets::busyRunning, x -> x.waits(minutes), -1);
        }
        document.leavesAll("waits(1) while it RUNS", Streets::busyRunning, x -> x.waits(1), -3);
        document.leavesAll("waits(60) while it RUNS", Streets::busyRunning, x -> x.waits(60), -3);
        document.says(10, "A WAIT of m MINUTES (1 .. 60): PACE 0");
        for (int minutes : new int[] {1, 60}) {
            PushedTillItCatches x = Streets.busy();
            due("waits(" + minutes + ")", x.waits(minutes), minutes == 1 ? 2 : 0);
            due("PACE", x.count(3), 0);
            due("AT", x.count(2), 3);
        }
        document.says(10, "GAS m by 5, cut, less");
        int[][] gases = {{9, 4, 9}, {9, 5, 8}, {9, 9, 8}, {9, 10, 7}, {9, 44, 1}, {9, 45, 0}, {8, 60, 0}, {0, 60, 0}, {1, 9, 0}};
        for (int[] one : gases) {
            due("waits(" + one[1] + ") with GAS " + one[0], told("g" + one[0] + ";").waits(one[1]), one[2]);
        }
        document.says(10, "BREATHS m by 2, cut, more (40 at most)");
        int[][] breaths = {{0, 1, 0}, {0, 2, 1}, {0, 3, 1}, {39, 1, 39}, {39, 2, 40}, {39, 4, 40}, {40, 60, 40},
            {10, 60, 40}, {9, 60, 39}, {11, 60, 40}, {0, 59, 29}};
        for (int[] one : breaths) {
            PushedTillItCatches x = told("p01" + Streets.two(one[0]) + "0;p20001;");
            x.waits(one[1]);
            due("BREATH " + one[0] + " behind waits(" + one[1] + ")", x.pusher(0, 1), one[2]);
            due("BREATH 0 behind waits(" + one[1] + ")", x.pusher(1, 1), one[1] / 2);
        }
    }
}
