/** Streets that several tests use. */
final class Streets {
    static final int MIN = Integer.MIN_VALUE;
    static final int MAX = Integer.MAX_VALUE;
    static final String FIVE = "y00;".repeat(5);
    static final String TEN = FIVE + FIVE;
    static final String TWENTY = TEN + TEN;
    /** With WEIGHT 8 PACE behind n YARDS is n; COLD is 3: LOW 5, 7, 12. */
    static final String PLAIN = TEN + "p16400;";
    /** It RUNS, AT the end of its one YARD, with PACE 7. */
    static final String RUNNING = "y49;r01;t1;";
    /** The first YARD brings PACE 1, the others leave it so, as long as the first has BREATH; 19 YARDS. */
    static final String CRAWL = TEN + FIVE + "y00;".repeat(4) + "p08400;p08010;";

    private Streets() {
    }

    static PushedTillItCatches told(String text) {
        return Checks.told(text);
    }

    /** It has a PACE (0 .. 24) on plain YARDS, AT 1 if it is above 0; nobody has BREATH. */
    static PushedTillItCatches atPace(int pace, String more) {
        int one = Math.min(20, pace + 1);
        int other = pace + 1 - one;
        String pushers = "p" + two(one) + "010;p" + two(other) + "010;";
        return told("y00;y00;y00;" + pushers + "w01;r01;" + more);
    }

    static String two(int n) {
        return "" + n / 10 + n % 10;
    }

    /** A street with something of everything, on all kinds of SHELVES, AT 3 with PACE 16, THE IMAGE taken AT 1. */
    static PushedTillItCatches busy() {
        PushedTillItCatches x = told("y00;y16;y25;y30;y43;y54;y00;y60;y77;p12051;p09200;p20031;w06;c4;h5;r01;");
        x.image();
        x.rolls(2);
        x.set(2, 2);
        shelves(x);
        return x;
    }

    /** The same, but it RUNS. */
    static PushedTillItCatches busyRunning() {
        PushedTillItCatches x = busy();
        x.tries(3);
        return x;
    }

    /** 20 YARDS and 5 PUSHERS, AT the end with PACE 20. */
    static PushedTillItCatches full() {
        PushedTillItCatches x = told("p16400;p00000;p00111;p01000;p00400;");
        x.keep(0, 1, 0, 5);
        for (int y = 0; y < 20; y++) {
            x.lays(0);
        }
        x.image();
        x.rolls(20);
        shelves(x);
        return x;
    }

    /** SHELVES 0 and 5 hold YARDS, 1 to 3 ROWS of each SORT, 4 an empty one, 6 and 7 nothing. */
    private static void shelves(PushedTillItCatches x) {
        x.keep(0, 1, 4, 9);
        Checks.fill(x, 1, 0, 1, -2, 2);
        Checks.fill(x, 2, 1, 0, 300);
        Checks.fill(x, 3, 2, 70000);
        x.row(4, 1, 0);
        x.keep(5, 1, 6, 1);
    }
}
