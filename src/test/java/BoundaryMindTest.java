import java.io.IOException;
import java.math.BigInteger;

/** Boundaries of promises 11 to 32: what is asked in mind, coughs, marks and told paces. */
public final class BoundaryMindTest {
    private static final int MIN = Streets.MIN;
    private static final int MAX = Streets.MAX;
    private static final String PLAIN = Streets.PLAIN;
    private static final String FIVE = Streets.FIVE;
    private static final String TEN = Streets.TEN;
    private static final String TWENTY = Streets.TWENTY;
    private static final String CRAWL = Streets.CRAWL;
    private static final int[] NO_SHELVES = {MIN, -1, 8, MAX};

    private static Sentences document;

    public static void main(String[] args) throws IOException {
        document = new Sentences("BoundaryMindTest");
        inMindAlone();
        behind();
        catches();
        catchesInGears();
        inGear();
        curve();
        who();
        leaveOne();
        alone();
        pushUp();
        howLong();
        hand();
        showing();
        park();
        downTo();
        safe();
        odds();
        what();
        tryNext();
        gettingIn();
        marks();
        forged();
        judge();
        judgeAtForty();
        mornings();
        draws();
        document.end(11, 32);
    }

    private static void due(String call, long got, long want) {
        document.due(call, got, want);
    }

    private static PushedTillItCatches told(String text) {
        return Checks.told(text);
    }

    private static PushedTillItCatches atPace(int pace, String more) {
        return Streets.atPace(pace, more);
    }

    private static PushedTillItCatches parked(String text, int at) {
        PushedTillItCatches x = told(text);
        x.parks(at);
        return x;
    }

    /** A call refuses these numbers as one it knows nothing of, whether it RUNS or not. */
    private static void noSuch(String call, Sentences.Call asked) {
        document.leavesAll(call, Streets::busy, asked, -1);
        document.leavesAll(call + " while it RUNS", Streets::busyRunning, asked, -1);
    }

    /** A call answers what is due, and refuses while it RUNS; nothing changes. */
    private static void asks(String call, Sentences.Call asked, long want) {
        document.leavesAll(call, Streets::busy, asked, want);
        document.leavesAll(call + " while it RUNS", Streets::busyRunning, asked, -3);
    }

    /** The street is AT 3 with PACE 16, COLD 4, HAND 5, GAS 2: CAUGHT in GEAR 3 now. */
    private static void inMindAlone() {
        document.says(11, "In mind, n YARDS rolled from now");
        asks("behind(6, 0)", x -> x.behind(6, 0), 20);
        asks("behind(6, 1)", x -> x.behind(6, 1), 9);
        asks("behind(6, 2)", x -> x.behind(6, 2), 11);
        document.says(12, "n (what 0; -4), the GEAR (1; -4), PACE (2; -4). -1, -3.");
        asks("catches(0)", x -> x.catches(0), 0);
        asks("catches(1)", x -> x.catches(1), 3);
        asks("catches(2)", x -> x.catches(2), 16);
        document.says(13, "IN A GEAR; -4. -1, -3.");
        asks("inGear(1)", x -> x.inGear(1), -4);
        asks("inGear(2)", x -> x.inGear(2), -4);
        asks("inGear(3)", x -> x.inGear(3), 0);
        document.says(15, "WHO PUSHES (bits); -4. -3.");
        asks("who()", x -> x.who(), 0);
        document.says(16, "LEAVE ONE; -4. -3.");
        asks("leaveOne()", x -> x.leaveOne(), 2);
        document.says(17, "ALONE; -4. -3.");
        asks("alone()", x -> x.alone(), 0);
        document.says(18, "PUSH UP: b (what 0; -4), n (1; -4). -1, -3.");
        asks("pushUp(0)", x -> x.pushUp(0), 0);
        asks("pushUp(1)", x -> x.pushUp(1), 0);
        document.says(19, "HOW LONG; -4. -3.");
        asks("howLong()", x -> x.howLong(), 0);
        document.says(20, "HAND WANTED; -4. -3.");
        asks("hand()", x -> x.hand(), 0);
        document.says(21, "WORTH of SHOWING; -4. -3.");
        asks("showing()", x -> x.showing(), 0);
        document.says(23, "DOWN TO. -3.");
        asks("downTo()", x -> x.downTo(), 23);
        document.says(24, "SAFE. -3.");
        asks("safe()", x -> x.safe(), 0);
        document.says(28, "GETTING IN; -4. -1, -3.");
        asks("gettingIn(1)", x -> x.gettingIn(1), -4);
        asks("gettingIn(3)", x -> x.gettingIn(3), 0);
        document.says(32, "MORNINGS: how many (what 0), YARDS (1). -1, -3.");
        asks("mornings(20, 9, 0)", x -> x.mornings(20, 9, 0), 20);
        asks("mornings(20, 9, 1)", x -> x.mornings(20, 9, 1), 0);
    }

    private static void behind() {
        document.says(11, "PACE (what 0), AT (1), BREATHS (2) behind n YARDS. -1, -3.");
        for (int n : new int[] {MIN, -1, 41, MAX}) {
            noSuch("behind(" + n + ", 0)", x -> x.behind(n, 0));
        }
        for (int what : new int[] {MIN, -1, 3, MAX}) {
            noSuch("behind(1, " + what + ")", x -> x.behind(1, what));
        }
        document.says(11, "(0 .. 40; AT the end the rest is nothing): PACE; AT; all BREATHS.");
        PushedTillItCatches x = told(TWENTY + "p16400;p00400;p00100;p00000;");
        for (int n : new int[] {0, 1, 19, 20, 21, 39, 40}) {
            int rolled = Math.min(n, 20);
            due("behind(" + n + ", 0)", x.behind(n, 0), rolled);
            due("behind(" + n + ", 1)", x.behind(n, 1), rolled);
            due("behind(" + n + ", 2)", x.behind(n, 2), 90 - 2 * rolled - Math.min(rolled, 10));
        }
        x.rolls(20);
        due("behind(0, 0) AT the end", x.behind(0, 0), 20);
        due("behind(40, 0) AT the end", x.behind(40, 0), 20);
        due("behind(40, 1) AT the end", x.behind(40, 1), 20);
        due("behind(40, 2) AT the end", x.behind(40, 2), 40);
        // As it stands, those with BREATH push on till they are puffed.
        x = told("y00;p07400;p00390;");
        due("behind(39, 2) as it stands", x.behind(39, 2), 1);
        due("behind(40, 2) as it stands", x.behind(40, 2), 0);
        due("behind(40, 1) as it stands", x.behind(40, 1), 0);
        due("behind(40, 0) as it stands", x.behind(40, 0), 0);
    }

    /** CATCHES: n, the GEAR, PACE. */
    private static void caught(String of, PushedTillItCatches x, int n, int gear, int pace) {
        due("catches(0) of " + of, x.catches(0), n);
        due("catches(1) of " + of, x.catches(1), gear);
        due("catches(2) of " + of, x.catches(2), pace);
    }

    private static void never(String of, PushedTillItCatches x) {
        caught(of, x, -4, -4, -4);
    }

    private static void catches() {
        document.says(12, "CATCHES: the least n (0 .. 40) behind which a GEAR is CAUGHT; -4");
        for (int what : new int[] {MIN, -1, 3, MAX}) {
            noSuch("catches(" + what + ")", x -> x.catches(what));
        }
        caught("CAUGHT now", told(PLAIN + "r06;"), 0, 1, 6);
        caught("CAUGHT AT the end", told("y00;p07400;w01;r01;"), 0, 1, 6);
        caught("the next YARD", told(PLAIN + "r05;"), 1, 1, 6);
        never("a YARD too few", told(FIVE + "p16400;"));
        caught("the last YARD", told(FIVE + "y00;p16400;"), 6, 1, 6);
        caught("the last of 20", told(CRAWL + "y46;"), 20, 1, 7);
        never("no YARDS", told("p20400;w01;"));
        never("it stands", told("y00;p15400;"));
        document.says(12, "DROWNED (4), if GAS is 6 or more");
        caught("GAS 5", told(PLAIN + "g5;"), 6, 1, 6);
        never("GAS 6", told(PLAIN + "g6;"));
        never("GAS 9, CAUGHT but for that", told(PLAIN + "r06;g9;"));
    }

    private static void catchesInGears() {
        document.says(12, "the GEAR (the least); PACE then");
        caught("PACE 6, two GEARS", atPace(6, "c0;h4;"), 0, 1, 6);
        caught("PACE 7, two GEARS", atPace(7, "c0;"), 0, 1, 7);
        caught("PACE 8", atPace(8, "c0;"), 0, 2, 8);
        caught("PACE 12, two GEARS", atPace(12, "c0;"), 0, 2, 12);
        caught("PACE 13", atPace(13, "c0;"), 0, 3, 13);
        caught("PACE 20", atPace(20, ""), 0, 3, 20);
        caught("PACE 21", atPace(21, ""), 1, 3, 20);
        never("PACE 23, two YARDS on", atPace(23, ""));
        caught("PACE 22, two YARDS on", atPace(22, ""), 2, 3, 20);
        document.says(12, "COUGHS (1), if it is LOW");
        never("PACE 5 AT the end", told("y00;p06010;w01;r01;"));
        caught("PACE 5 by COLD 2", atPace(5, "c2;"), 0, 1, 5);
        never("PACE 5 by COLD 3", atPace(5, "c3;"));
        never("PACE 7 by COLD 9", atPace(7, "c9;"));
        caught("PACE 7 by COLD 8", atPace(7, "c8;"), 0, 1, 7);
        caught("PACE 7 by COLD 9 and HAND 4", atPace(7, "c9;h4;"), 0, 1, 7);
    }

    private static void inGear() {
        document.says(13, "IN A GEAR: the least n for that GEAR alone; -4.");
        for (int gear : new int[] {MIN, -1, 0, 4, MAX}) {
            noSuch("inGear(" + gear + ")", x -> x.inGear(gear));
        }
        PushedTillItCatches x = told(TWENTY + "p16400;");
        due("inGear(1)", x.inGear(1), 6);
        due("inGear(2)", x.inGear(2), 8);
        due("inGear(3)", x.inGear(3), 13);
        x.rolls(20);
        due("inGear(3) now", x.inGear(3), 0);
        due("inGear(2), too fast", x.inGear(2), -4);
        due("inGear(1) on the last YARD of 20", told(CRAWL + "y46;").inGear(1), 20);
        due("inGear(2) on the last YARD of 20", told(CRAWL + "y46;").inGear(2), -4);
        for (int gear = 1; gear <= 3; gear++) {
            due("inGear(" + gear + ") with GAS 6", told(TWENTY + "p16400;g6;").inGear(gear), -4);
            due("inGear(" + gear + ") without YARDS", told("").inGear(gear), -4);
        }
        due("inGear(1) where PACE passes it by", told("y49;y00;p16400;").inGear(1), -4);
        due("inGear(1) as PACE comes down", atPace(9, "c9;h4;").inGear(1), 2);
    }

    private static void curve() {
        document.says(14, "CURVE: LOW (what 0), HIGH (1), how many PACES (2). -1.");
        for (int number : new int[] {MIN, -1, 0, 4, MAX}) {
            noSuch("curve(" + number + ", 0)", x -> x.curve(number, 0));
        }
        for (int number : new int[] {MIN, -1, 3, MAX}) {
            noSuch("curve(1, " + number + ")", x -> x.curve(1, number));
        }
        document.says(14, "CURVE of a GEAR: LOW, HIGH; how many PACES are CAUGHT in it.");
        int[] highs = {7, 12, 20};
        int[][] figures = {{0, 0, 4, 6, 11}, {0, 9, 2, 4, 9}, {9, 0, 7, 9, 14}, {9, 9, 5, 7, 12}, {2, 3, 4, 6, 11}};
        for (int[] one : figures) {
            PushedTillItCatches x = told("c" + one[0] + ";h" + one[1] + ";");
            for (int gear = 1; gear <= 3; gear++) {
                String of = " with COLD " + one[0] + ", HAND " + one[1];
                due("curve(" + gear + ", 0)" + of, x.curve(gear, 0), one[1 + gear]);
                due("curve(" + gear + ", 1)" + of, x.curve(gear, 1), highs[gear - 1]);
                due("curve(" + gear + ", 2)" + of, x.curve(gear, 2), highs[gear - 1] - one[1 + gear]);
            }
        }
        due("curve(1, 2) with GAS 5", told("g5;").curve(1, 2), 2);
        document.leavesAll("curve(3, 1) while it RUNS", Streets::busyRunning, x -> x.curve(3, 1), 20);
    }

    private static void who() {
        document.says(15, "WHO PUSHES: the fewest PUSHERS (bits, of several the least) with whom alone it is CAUGHT in some n; -4");
        due("nobody is there", told("y49;").who(), 0);
        due("nobody is wanted", told("y49;p20400;").who(), 0);
        due("nobody is wanted now", told(PLAIN + "r06;").who(), 0);
        due("one", told(PLAIN).who(), 1);
        due("the last of five", told(TEN + "p08400;p08400;p08400;p15400;p16400;").who(), 16);
        due("the least of five", told(TEN + "p16400;".repeat(5)).who(), 1);
        due("the least two", told(TEN + "p08400;".repeat(5)).who(), 3);
        due("the last two", told(TEN + "p00400;p00400;p00400;p08400;p08400;").who(), 24);
        due("four of five", told(TEN + "p04400;".repeat(5)).who(), 15);
        due("all five", told(TEN + "p04400;p03400;p03400;p03400;p03400;").who(), 31);
        due("five are too few", told(TEN + "p03400;".repeat(5)).who(), -4);
        due("too many make it pass by", told("y00;p20400;p20400;p06010;w01;").who(), 1);
        due("fewer alone", told("y00;p04400;p04400;p07400;w01;").who(), 4);
        due("GAS 6", told(PLAIN + "g6;").who(), -4);
        due("too little BREATH", told(TEN + "p16050;").who(), -4);
        due("just enough BREATH", told(TEN + "p16060;").who(), 1);
    }

    private static void leaveOne() {
        document.says(16, "LEAVE ONE: the PUSHER without whom it is CAUGHT all the same, of several the greatest STRENGTH, then least; -4.");
        due("nobody is there", told("y49;").leaveOne(), -4);
        due("one, who is wanted", told(PLAIN).leaveOne(), -4);
        due("one, who is not", told("y49;p20400;").leaveOne(), 0);
        due("one of STRENGTH 0", told("y49;p00000;").leaveOne(), 0);
        due("all are wanted", told(TEN + "p04400;p03400;p03400;p03400;p03400;").leaveOne(), -4);
        due("any of five", told(TEN + "p08400;".repeat(5)).leaveOne(), 0);
        due("the strongest of five", told(TEN + "p16400;p16400;p16400;p16400;p20400;").leaveOne(), 4);
        due("the least of the strongest", told(TEN + "p16400;p17400;p20400;p20400;p20400;").leaveOne(), 2);
        due("the weakest alone", told(TEN + "p15400;p01400;p00400;").leaveOne(), 2);
        due("without the one who makes it pass by", told("y00;p20010;p07010;w01;").leaveOne(), 0);
        due("never", told("y00;p20000;p20000;").leaveOne(), -4);
    }

    private static void alone() {
        document.says(17, "ALONE: the least n (0 .. 40) behind which it goes on with nobody pushing till it is CAUGHT (in some GEAR, at some YARD on); -4.");
        due("now", told("y49;").alone(), 0);
        due("CAUGHT now", told(PLAIN + "r06;").alone(), 0);
        due("AT the end, CAUGHT", told("y00;p07400;w01;r01;").alone(), 0);
        due("AT the end, not CAUGHT", told("y00;p06400;w01;r01;").alone(), -4);
        due("a YARD too few", told(FIVE + "p16400;").alone(), -4);
        due("pushed to the last of 20", told(CRAWL + "y49;").alone(), 19);
        due("pushed on the last of 20", told(CRAWL + "y46;c2;").alone(), 19);
        due("pushed on the last of 20, all the way", told(CRAWL + "y46;").alone(), 19);
        due("CAUGHT by a push on the last of 20", told(CRAWL + "y43;c2;").alone(), 20);
        due("it stands", told("y00;y49;p15400;").alone(), -4);
        due("just pushed to the slope", told("y00;y49;p16010;").alone(), 1);
        due("GAS 6", told("y49;g6;").alone(), -4);
    }

    private static void pushUp() {
        document.says(18, "PUSH UP: it is pushed back b YARDS first (0 .. AT; 0: all as it is)");
        for (int what : new int[] {MIN, -1, 2, MAX}) {
            noSuch("pushUp(" + what + ")", x -> x.pushUp(what));
        }
        pushedUp("AT 0", parked(PLAIN, 0), 0, 6);
        pushedUp("AT 0, never", told(FIVE + "p16400;"), -4, -4);
        pushedUp("back to YARD 0", parked(FIVE + "y00;p16120;", 6), 6, 6);
        pushedUp("AT 20, back to YARD 0", parked("y49;" + CRAWL.substring(0, 76) + "p00400;", 20), 20, 1);
        pushedUp("all as it is: PACE", told(PLAIN + "r06;"), 0, 0);
        pushedUp("all as it is: nobody has BREATH", parked("y49;p20000;", 0), 0, 1);
        pushedUp("all as it is: nobody is there", told("y49;"), 0, 1);
        document.says(18, "each takes BREATH 1 of each who has it (if nobody has, it can not), it stands then, PACE 0");
        pushedUp("nobody is there", parked("y49;", 1), -4, -4);
        pushedUp("nobody has BREATH", parked("y49;p20000;", 1), -4, -4);
        pushedUp("BREATH 1 for one", parked("y49;p00010;", 1), 1, 1);
        pushedUp("BREATH 1 for two", parked("y49;y00;p00010;p00010;", 2), -4, -4);
        pushedUp("BREATH 2 and 0 for two", parked("y49;y00;p00000;p00020;", 2), 2, 1);
        pushedUp("BREATH 1 and 2 for two", parked("y49;y00;p00010;p00020;", 2), 2, 1);
        String slope = "y49;" + TWENTY.substring(4);
        pushedUp("five, BREATH 20", parked(slope + "p00000;p00050;p00190;p00200;p00010;", 20), 20, 1);
        pushedUp("five, BREATH 19", parked(slope + "p00000;p00050;p00190;p00190;p00010;", 20), -4, -4);
        pushedUp("BREATH 1, and none to push", parked("y00;p07010;w01;", 1), -4, -4);
        pushedUp("BREATH 2, and 1 to push", parked("y00;p07020;w01;", 1), 1, 1);
        // With the PACE of now, 8, the slope would make it 15, which is CAUGHT; from 0 it COUGHS at 7.
        pushedUp("PACE 0 then", told("y49;y00;y00;p01020;w01;r01;c9;"), -4, -4);
        document.says(18, "the b by which it is CAUGHT at all, of several the least; -4; the n then.");
        pushedUp("the least of several", parked(TEN + "p16400;", 7), 3, 6);
        pushedUp("GAS 6", parked(TEN + "p16400;g6;", 7), -4, -4);
    }

    private static void pushedUp(String of, PushedTillItCatches x, int b, int n) {
        due("pushUp(0) of " + of, x.pushUp(0), b);
        due("pushUp(1) of " + of, x.pushUp(1), n);
    }

    private static void howLong() {
        document.says(19, "HOW LONG: the fewest MINUTES to WAIT (0 .. 60) now so that it is CAUGHT in some n then; -4.");
        due("0", told(PLAIN).howLong(), 0);
        due("0, PACE as it is", told(PLAIN + "r06;").howLong(), 0);
        due("GAS 5", told(PLAIN + "g5;").howLong(), 0);
        due("GAS 6", told(PLAIN + "g6;").howLong(), 5);
        due("GAS 9", told(PLAIN + "g9;").howLong(), 20);
        due("BREATH 6 of 6", told(TEN + "p16060;").howLong(), 0);
        due("BREATH 5 of 6", told(TEN + "p16050;").howLong(), 2);
        // PACE 1 on 19 YARDS, as long as one has BREATH to push; the last is STEEP.
        String slowly = "y10;" + TWENTY.substring(8) + "p08000;";
        due("BREATH for all of 20", told(slowly + "y43;c2;").howLong(), 40);
        due("BREATH for 19 of 20", told(slowly + "y49;").howLong(), 38);
        due("a minute", told("y49;".repeat(8) + "r04;").howLong(), 1);
        due("AT the end", told("y00;p06010;w01;r01;").howLong(), -4);
        due("60 are too few", told("y00;p15400;g9;").howLong(), -4);
        due("CAUGHT now but for GAS, too slow behind a WAIT", told("y00;p07010;w01;r01;g6;").howLong(), -4);
    }

    private static void hand() {
        document.says(20, "HAND WANTED: the least HAND (0 .. 9) by which it is CAUGHT in some n; -4.");
        due("0, though HAND is 9", told(PLAIN + "h9;").hand(), 0);
        due("PACE 5, LOW 5", told(FIVE + "p16400;").hand(), 4);
        due("PACE 4, LOW 5", told("y00;y00;y00;y00;p16400;").hand(), 8);
        due("PACE 3, LOW 5", told("y00;y00;y00;p16400;").hand(), -4);
        due("PACE 3, LOW 4", told("y00;y00;y00;p16400;c2;").hand(), 8);
        due("PACE 4, LOW 6", told("y00;y00;y00;y00;p16400;c6;").hand(), -4);
        due("no YARDS", told("").hand(), -4);
        due("GAS 6", told(PLAIN + "g6;").hand(), -4);
    }

    private static void showing() {
        document.says(21, "WORTH of SHOWING: by how many YARDS sooner (CATCHES) HAND 9 is than as it is");
        due("HAND 0", told(PLAIN).showing(), 2);
        due("HAND 3", told(PLAIN + "h3;").showing(), 2);
        due("HAND 4", told(PLAIN + "h4;").showing(), 1);
        due("HAND 7", told(PLAIN + "h7;").showing(), 1);
        due("HAND 8", told(PLAIN + "h8;").showing(), 0);
        due("HAND 9", told(PLAIN + "h9;").showing(), 0);
        document.says(21, "-4 it never is with 9; 41 for never as it is.");
        due("never with 9", told("y00;y00;y00;p16400;").showing(), -4);
        due("no YARDS", told("").showing(), -4);
        due("GAS 6", told(PLAIN + "g6;").showing(), -4);
        // 41 stands for the n of never.
        due("never as it is, now with 9", told("y00;p06010;w01;r01;").showing(), 41);
        due("never as it is, 4 with 9", told(FIVE + "p16400;").showing(), 41 - 4);
        due("never as it is, 20 with 9", told(CRAWL + "y43;c4;").showing(), 41 - 20);
        due("never as it is, on the last PACE", told("y00;y00;y00;y00;p16400;").showing(), 41 - 4);
    }

    private static void park() {
        document.says(22, "PARK: the AT (0 .. YARDS) from which, with PACE 0 and nobody pushing, it is CAUGHT soonest, of several the least; -4.");
        due("no YARDS", told("p20400;").park(), -4);
        due("nobody pushing", told(TWENTY + "p16400;").park(), -4);
        due("YARD 0", told("y49;".repeat(20)).park(), 0);
        due("YARD 19 alone", told(TWENTY.substring(4) + "y49;").park(), 19);
        due("soonest, not least", told("y19;y19;y49;").park(), 2);
        due("soonest by one", told("y00;y19;y19;y19;").park(), 1);
        due("with PACE 0", told("y49;y00;y00;y49;r02;").park(), 0);
        due("it COUGHS alone", told("y49;y49;c9;").park(), -4);
        due("it COUGHS twice from YARD 0, once from YARD 1", told("y49;y49;y46;c9;").park(), 1);
        due("GAS 5", told("y00;y49;g5;").park(), 1);
        due("GAS 6", told("y00;y49;g6;").park(), -4);
        document.says(22, "PARK; -4.");
        document.leavesAll("park()", Streets::busy, x -> x.park(), -4);
        document.leavesAll("park() while it RUNS", Streets::busyRunning, x -> x.park(), -4);
        document.leavesAll("park() AT the end", Streets::full, x -> x.park(), -4);
        due("park() while it RUNS", told("y49;r01;t1;").park(), 0);
    }

    private static void downTo() {
        document.says(23, "DOWN TO: the greatest PACE on the way to the end, all pushing.");
        due("no YARDS", told("").downTo(), 0);
        due("it stands", told("y00;p15400;").downTo(), 0);
        due("24", told("y49;".repeat(20)).downTo(), 24);
        due("20 YARDS", told(TWENTY + "p16400;").downTo(), 20);
        due("the first YARD", told("y49;" + TEN).downTo(), 7);
        due("the last YARD", told(CRAWL + "y49;").downTo(), 1 + 8 + 1 - 1);
        due("PACE now", atPace(24, "").downTo(), 24);
        due("AT the end", told("y49;r01;").downTo(), 7);
        due("with the last BREATH", told(TEN + "p16030;").downTo(), 3);
    }

    private static void safe() {
        document.says(24, "SAFE: whether it stops ahead of the first CROSSING (YARD from AT on; CHURCH, too), if nobody pushes from now on");
        due("PACE 1 ahead of a CROSSING", told("y13;y60;y00;r01;").safe(), 1);
        due("PACE 2 ahead of a CROSSING", told("y16;y60;y00;r01;").safe(), 0);
        due("PACE 2 ahead of a CHURCH", told("y16;y70;y00;r01;").safe(), 1);
        due("PACE 3 ahead of a CHURCH", told("y19;y70;y00;r01;").safe(), 0);
        due("a CHURCH ahead of a CROSSING", told("y16;y70;y60;r01;").safe(), 1);
        due("PACE 0 ahead of it", told("y60;p20400;").safe(), 1);
        due("nobody pushes, though they could", told("y00;y60;p20400;w01;").safe(), 1);
        due("nobody pushes any more", told("y13;y00;y60;y00;p08400;r01;").safe(), 1);
        due("over the last YARD", told("y49;y60;").safe(), 0);
        due("it stops a YARD ahead of it", told("y16;y00;y00;y60;").safe(), 1);
        due("it stops at it", told("y16;y00;y60;").safe(), 1);
        due("19 YARDS ahead", told("y16;" + TWENTY.substring(8) + "y60;").safe(), 1);
        due("far on all the way down", told("y13;".repeat(19) + "y60;").safe(), 0);
        document.says(24, "1, 0 (1, if there is none).");
        due("none", told("y49;y49;").safe(), 1);
        due("no YARDS", told("").safe(), 1);
        due("AT the end", told("y49;y60;r02;").safe(), 1);
        due("behind AT alone", told("y19;y60;y19;y00;r02;").safe(), 1);
        due("behind AT and on", told("y19;y60;y19;y60;r02;").safe(), 0);
    }

    private static void fraction(PushedTillItCatches x, int gear, int pace, int n, long above, long below) {
        String call = "odds(" + gear + ", " + pace + ", " + n + ", ";
        due(call + "0)", x.odds(gear, pace, n, 0), above);
        due(call + "1)", x.odds(gear, pace, n, 1), below);
    }

    private static void odds() {
        long refused = -1000000001L;
        document.says(25, "ODDS at a PACE (0 .. 24) in a GEAR; part 0 above, 1 below the line. Refused as told: -1.");
        for (int number : new int[] {MIN, -1, MAX}) {
            noOdds("a GEAR " + number, x -> x.odds(number, 12, 1, 0));
            noOdds("a PACE " + number, x -> x.odds(2, number, 1, 0));
            noOdds("so many TRIES " + number, x -> x.odds(2, 12, number, 0));
            noOdds("a part " + number, x -> x.odds(2, 12, 1, number));
        }
        document.says(25, "Of longs -1 is -1000000001.");
        PushedTillItCatches x = told("");
        due("odds(0, 12, 1, 0)", x.odds(0, 12, 1, 0), refused);
        due("odds(4, 12, 1, 0)", x.odds(4, 12, 1, 0), refused);
        due("odds(2, 25, 1, 0)", x.odds(2, 25, 1, 0), refused);
        due("odds(2, 12, 9, 0)", x.odds(2, 12, 9, 0), refused);
        due("odds(2, 12, 1, 2)", x.odds(2, 12, 1, 2), refused);
        document.says(25, "ODDS of n TRIES (0 .. 8) one behind the other at PACE v each");
        fraction(x, 2, 12, 0, 0, 1);
        fraction(x, 2, 12, 1, 1, 2);
        fraction(x, 2, 12, 7, 127, 128);
        fraction(x, 2, 12, 8, 255, 256);
        fraction(x, 2, 10, 8, 100000000 - 5764801, 100000000);
        document.says(25, "each CATCHES by tenths as far as PACE is above LOW of a GEAR, at most 9");
        fraction(x, 2, 8, 1, 1, 10);
        fraction(x, 1, 6, 1, 1, 10);
        fraction(x, 1, 7, 1, 1, 5);
        x.set(1, 0);
        fraction(x, 3, 19, 1, 4, 5);
        fraction(x, 3, 20, 1, 9, 10);
        x.set(3, 4);
        fraction(x, 3, 20, 1, 9, 10);
        fraction(x, 3, 20, 8, 99999999, 100000000);
        document.says(25, "none if it is below LOW or above HIGH");
        x = told("");
        fraction(x, 2, 7, 8, 0, 1);
        fraction(x, 2, 6, 8, 0, 1);
        fraction(x, 2, 13, 8, 0, 1);
        fraction(x, 1, 0, 8, 0, 1);
        fraction(x, 1, 8, 1, 0, 1);
        fraction(x, 3, 21, 1, 0, 1);
        fraction(x, 3, 24, 1, 0, 1);
        document.says(25, "a fraction in least terms (GAS aside).");
        fraction(told("g6;"), 2, 12, 2, 3, 4);
        fraction(told("g9;"), 2, 9, 2, 9, 25);
        document.leavesAll("odds(3, 16, 1, 0) while it RUNS", Streets::busyRunning, y -> y.odds(3, 16, 1, 0), 1);
    }

    private static void noOdds(String of, Sentences.Call asked) {
        document.leavesAll("odds of " + of, Streets::busy, asked, -1000000001L);
    }

    /** What every call refuses that reads a ROW of any SORT from a SHELF. */
    private static void readsRow(String call, java.util.function.ToIntBiFunction<PushedTillItCatches, Integer> asked) {
        for (int d : NO_SHELVES) {
            noSuch(call + "(" + d + ")", x -> asked.applyAsInt(x, d));
        }
        document.leavesAll(call + " of nothing", Streets::busy, x -> asked.applyAsInt(x, 6), -11);
        document.leavesAll(call + " of nothing while it RUNS", Streets::busyRunning, x -> asked.applyAsInt(x, 7), -11);
        document.leavesAll(call + " of a YARD", Streets::busy, x -> asked.applyAsInt(x, 0), -12);
        document.leavesAll(call + " of a YARD while it RUNS", Streets::busyRunning, x -> asked.applyAsInt(x, 5), -12);
    }

    private static PushedTillItCatches withRow(String text, int sort, int... row) {
        PushedTillItCatches x = told(text);
        Checks.fill(x, 7, sort, row);
        return x;
    }

    /** WHAT IS IT by a ROW, of each SORT. */
    private static void isIt(int causes, int... row) {
        for (int sort = 0; sort < 3; sort++) {
            due("what of " + java.util.Arrays.toString(row), withRow("", sort, row).what(7), causes);
        }
    }

    private static void what() {
        document.says(26, "WHAT IS IT by the ROW in SHELF d (bits). -1, -11, -12 (no ROW), -13 (another number than 0 .. 2).");
        readsRow("what", (x, d) -> x.what(d));
        isIt(-13, -1);
        isIt(-13, 3);
        isIt(-13, 127);
        isIt(-13, 0, 1, 2, 0, -128);
        // A number that is none comes first, whatever it could be by those ahead of it.
        isIt(-13, 2, 2, 3);
        due("what of MAX", withRow("", 2, MAX).what(7), -13);
        due("what of MIN", withRow("", 2, MIN).what(7), -13);
        due("what of 256 in bytes", withRow("", 0, 256).what(7), 7);
        document.leavesAll("what of a number below 0", Streets::busy, x -> x.what(1), -13);
        document.leavesAll("what of an empty ROW", Streets::busy, x -> x.what(4), 7);
        document.leavesAll("what while it RUNS", Streets::busyRunning, x -> x.what(4), 7);
        document.says(26, "flat: catches are only behind a cough");
        isIt(0, 2);
        isIt(1, 1, 2);
        isIt(0, 0, 2);
        isIt(2, 1, 0, 2);
        isIt(2, 1, 1, 2, 2);
        isIt(1, 1, 2, 1, 2);
        document.says(26, "damp: never a catch ahead of the third TRY");
        isIt(3, 0, 1, 2);
        isIt(2, 0, 0, 2);
        isIt(1, 1, 2, 0);
        document.says(26, "drowned: nothing else than 0: those (bits) by which it could be so.");
        isIt(7);
        isIt(7, 0);
        isIt(3, 1);
        isIt(7, new int[100]);
        int[] last = new int[100];
        last[99] = 1;
        isIt(3, last);
        last[99] = 2;
        isIt(2, last);
        last[98] = 1;
        isIt(3, last);
    }

    private static void next(int cough, int... row) {
        for (int sort = 0; sort < 3; sort++) {
            due("tryNext of " + java.util.Arrays.toString(row), withRow("", sort, row).tryNext(7), cough);
        }
    }

    private static void tryNext() {
        document.says(27, "TRY NEXT; -4. -1, -11, -12, -13 likewise.");
        readsRow("tryNext", (x, d) -> x.tryNext(d));
        next(-13, -1);
        next(-13, 3);
        next(-13, 1, 2, 3);
        next(-13, 2, -1);
        due("tryNext of MAX", withRow("", 2, MAX).tryNext(7), -13);
        due("tryNext of MIN", withRow("", 2, MIN).tryNext(7), -13);
        document.leavesAll("tryNext of a number below 0", Streets::busy, x -> x.tryNext(1), -13);
        document.leavesAll("tryNext of an empty ROW", Streets::busy, x -> x.tryNext(4), 2);
        document.leavesAll("tryNext while it RUNS", Streets::busyRunning, x -> x.tryNext(4), 2);
        document.says(27, "-4 fewer than two.");
        next(-4, 2);
        next(-4, 1, 2);
        next(-4, 0, 0, 2);
        document.says(27, "by which of 0, 1, 2 as the next cough most of these would be out, of several the least");
        // Of the first two TRIES a catch puts damp out, behind a cough it leaves flat.
        next(2);
        next(2, 0);
        next(2, 1);
        // By 0, 1, 2 flat and damp stay both: 0 is the least.
        next(0, 0, 1);
        next(0, 1, 1);
        next(2, 0, 0);
        next(2, 1, 0);
        next(2, 0, 1, 2);
        next(2, new int[100]);
        int[] last = new int[100];
        last[99] = 1;
        next(0, last);
    }

    private static void gettingIn() {
        document.says(28, "GETTING IN: PUSHERS get in one by one (by numbers), one each YARD from now, and push no more");
        for (int gear : new int[] {MIN, -1, 0, 4, MAX}) {
            noSuch("gettingIn(" + gear + ")", x -> x.gettingIn(gear));
        }
        due("nobody is there", told("y49;").gettingIn(2), -4);
        due("nobody is there, GEAR 1", told("y49;").gettingIn(1), 0);
        due("CAUGHT now", told(PLAIN + "r06;").gettingIn(1), 0);
        due("CAUGHT AT the end", told("y00;p07400;w01;r01;").gettingIn(1), 0);
        due("one is in behind one YARD", told("y49;p20400;").gettingIn(1), 1);
        due("the one in pushes no more", told("y00;p20400;w01;").gettingIn(3), -4);
        // 20 by 2 and 20 by 3: PACE 9, then 8 + 6 = 14.
        due("the others push on", told("y00;y00;p00400;p00400;p20400;w01;").gettingIn(2), 1);
        due("more YARDS than PUSHERS", told("y16;".repeat(8) + "p00000;p00000;").gettingIn(1), 2);
        due("all five are in", told("y13;y13;y13;y13;y13;y13;" + "p00000;".repeat(5)).gettingIn(1), 5);
        due("four are in", told("y13;y13;y13;y16;" + "p00000;".repeat(5) + "c2;").gettingIn(1), 4);
        document.says(28, "(each in makes WEIGHT 1 more, 20 at most)");
        due("20 stays 20", told("y49;y00;p00000;p20400;w20;").gettingIn(2), 1);
        due("19 becomes 20", told("y49;y00;p00000;p20400;w19;").gettingIn(2), 1);
        due("19 becomes 20, not less", told("y46;y00;p00000;p19400;w18;c2;").gettingIn(1), 1);
        due("18 becomes 19, 19 by 19", told("y46;p00000;p19400;w18;").gettingIn(1), 1);
        due("18 becomes 19, 18 by 19", told("y46;p00000;p18400;w18;c6;").gettingIn(1), -4);
        due("18 becomes 19, 19 by 19, COLD 6", told("y46;p00000;p19400;w18;c6;").gettingIn(1), -4);
        document.says(28, "how many are in as it is CAUGHT in told GEAR first; -4 never.");
        due("GAS 5", told("y49;p20400;g5;").gettingIn(1), 1);
        due("GAS 6", told("y49;p20400;g6;").gettingIn(1), -4);
        due("it stands", told("y00;y49;p20400;p15400;").gettingIn(1), -4);
        due("AT the end", told("p20400;").gettingIn(1), -4);
        due("in another GEAR first", told("y16;".repeat(8) + "p00000;").gettingIn(2), 1);
    }

    /** MARKS by a ROW and FORGED, of each SORT; GAS and COLD aside. */
    private static void locked(int howMany, int forged, int... row) {
        for (int sort = 0; sort < 3; sort++) {
            String of = " of " + java.util.Arrays.toString(row);
            PushedTillItCatches x = withRow("g9;c9;", sort, row);
            due("marks how many" + of, x.marks(7, 0), howMany);
            due("marks the least" + of, x.marks(7, 1), howMany > 0 ? 1 : -4);
            due("forged" + of, x.forged(7), forged);
        }
    }

    private static void noPaces(int sort, int... row) {
        String of = " of " + java.util.Arrays.toString(row);
        PushedTillItCatches x = withRow("", sort, row);
        due("marks(7, 0)" + of, x.marks(7, 0), -13);
        due("marks(7, 1)" + of, x.marks(7, 1), -13);
        due("forged(7)" + of, x.forged(7), -13);
    }

    private static void marks() {
        document.says(29, "MARKS by the ROW in SHELF d: how many (what 0), the least (1; -4). -1, -11, -12 (no ROW), -13 (a PACE not 0 .. 24).");
        readsRow("marks 0", (x, d) -> x.marks(d, 0));
        readsRow("marks 1", (x, d) -> x.marks(d, 1));
        for (int what : new int[] {MIN, -1, 2, MAX}) {
            for (int d = 0; d < 8; d++) {
                int shelf = d;
                document.leavesAll("marks(" + d + ", " + what + ")", Streets::busy, x -> x.marks(shelf, what), -1);
            }
        }
        document.leavesAll("marks of a PACE below 0", Streets::busy, x -> x.marks(1, 0), -13);
        document.leavesAll("marks of a PACE too great", Streets::busy, x -> x.marks(2, 0), -13);
        document.leavesAll("marks of an empty ROW", Streets::busy, x -> x.marks(4, 0), 3);
        document.leavesAll("marks while it RUNS", Streets::busyRunning, x -> x.marks(4, 1), 1);
        noPaces(0, -1);
        noPaces(0, 25);
        noPaces(1, 24, 24, 25);
        noPaces(1, 0, -1);
        noPaces(2, MAX);
        noPaces(2, 24, MIN);
        document.says(29, "MARKS: a ROW tells PACES at TRIES that LOCKED: GEARS (bits 1, 2, 4) by which all of them would: how many; the least; -4.");
        locked(3, -4);
        locked(3, -4, 24);
        locked(3, -4, 21);
        locked(2, -4, 20);
        locked(2, -4, 13);
        locked(1, -4, 12);
        locked(1, -4, 8);
        locked(0, 0, 7);
        locked(0, 0, 0);
        locked(2, -4, 24, 13, 24);
        locked(1, -4, 24, 24, 8);
        document.says(30, "FORGED: the first place such that no GEAR fits all up to it; -4.");
        locked(0, 1, 8, 7);
        locked(0, 2, 24, 13, 0, 24);
        int[] all = new int[100];
        java.util.Arrays.fill(all, 24);
        locked(3, -4, all);
        all[99] = 7;
        locked(0, 99, all);
        all[99] = 8;
        locked(1, -4, all);
    }

    private static void forged() {
        document.says(30, "FORGED; -4. -1, -11, -12, -13 likewise.");
        readsRow("forged", (x, d) -> x.forged(d));
        // A PACE that is none comes first, wherever it stands.
        noPaces(0, 0, 25);
        noPaces(0, 0, 0, -1);
        document.leavesAll("forged of a PACE below 0", Streets::busy, x -> x.forged(1), -13);
        document.leavesAll("forged of a PACE too great", Streets::busy, x -> x.forged(2), -13);
        document.leavesAll("forged of an empty ROW", Streets::busy, x -> x.forged(4), -4);
        document.leavesAll("forged while it RUNS", Streets::busyRunning, x -> x.forged(4), -4);
    }

    private static int judged(String text, int sort, int... row) {
        return withRow(text, sort, row).judge(7);
    }

    private static void judge() {
        document.says(31, "JUDGED by the ROW in SHELF d; -4. -1, -11, -12, -3.");
        readsRow("judge", (x, d) -> x.judge(d));
        document.leavesAll("judge while it RUNS", Streets::busyRunning, x -> x.judge(1), -3);
        document.leavesAll("judge of an empty ROW while it RUNS", Streets::busyRunning, x -> x.judge(4), -3);
        document.leavesAll("judge of an empty ROW", Streets::busy, x -> x.judge(4), -4);
        document.leavesAll("judge of a ROW", Streets::busy, x -> x.judge(2), 0);
        document.says(31, "JUDGED: a ROW tells PACE behind YARDS 0 (now), 1, .. rolled from now: the first that is not so");
        due("now", judged(PLAIN, 0, 1), 0);
        due("now, so", judged(PLAIN, 0, 0), -4);
        due("one YARD", judged(PLAIN, 1, 0, 2), 1);
        due("one YARD, so", judged(PLAIN, 1, 0, 1), -4);
        due("a number that is no PACE", judged(PLAIN, 0, 0, -1), 1);
        due("a number that is no PACE", judged(PLAIN, 2, 0, 1, MAX), 2);
        due("AT the end", judged("y49;r01;", 0, 7, 7, 7, 6), 3);
        document.says(31, "the least number of the SORT is skipped");
        due("bytes", judged(PLAIN, 0, -128, -128, 2), -4);
        due("bytes", judged(PLAIN, 0, -128, -127, 2), 1);
        due("shorts", judged(PLAIN, 1, -32768, 1), -4);
        due("shorts", judged(PLAIN, 1, -32768, -32767), 1);
        due("shorts", judged(PLAIN, 1, -128), 0);
        due("ints", judged(PLAIN, 2, MIN, 1), -4);
        due("ints", judged(PLAIN, 2, MIN, MIN + 1), 1);
        due("ints", judged(PLAIN, 2, -128), 0);
        due("ints", judged(PLAIN, 2, 0, -32768), 1);
        due("all", judged(PLAIN, 0, -128, -128, -128), -4);
        due("128 put in bytes", judged(PLAIN, 0, 128, 1), -4);
        due("32768 put in shorts", judged(PLAIN, 1, 32768, 1), -4);
        due("MAX in ints", judged(PLAIN, 2, MAX), 0);
    }

    private static void judgeAtForty() {
        document.says(31, "(beyond 40, too; the least number of the SORT is skipped); -4.");
        int[] least = {-128, -32768, MIN};
        for (int sort = 0; sort < 3; sort++) {
            int[] so = new int[41];
            for (int i = 0; i < 41; i++) {
                so[i] = Math.min(i, 10);
            }
            due("40 YARDS, so", judged(PLAIN, sort, so), -4);
            due("a place beyond 40", judged(PLAIN, sort, java.util.Arrays.copyOf(so, 42)), 41);
            int[] beyond = java.util.Arrays.copyOf(so, 42);
            beyond[41] = 10;
            due("a place beyond 40 that tells PACE", judged(PLAIN, sort, beyond), 41);
            beyond[41] = least[sort];
            due("a place beyond 40 that is skipped", judged(PLAIN, sort, beyond), -4);
            so[40] = 9;
            due("40 YARDS, not so", judged(PLAIN, sort, so), 40);
            so[40] = 11;
            due("40 YARDS, not so", judged(PLAIN, sort, java.util.Arrays.copyOf(so, 100)), 40);
            int[] all = new int[100];
            java.util.Arrays.fill(all, least[sort]);
            due("100 skipped", judged(PLAIN, sort, all), -4);
            all[99] = 10;
            due("the last of 100", judged(PLAIN, sort, all), 99);
        }
    }

    private static void mornings() {
        document.says(32, "MORNINGS with a seed z: n mornings (1 .. 20)");
        for (int n : new int[] {MIN, -1, 0, 21, MAX}) {
            noSuch("mornings(" + n + ", 1, 0)", x -> x.mornings(n, 1, 0));
        }
        for (int what : new int[] {MIN, -1, 2, MAX}) {
            noSuch("mornings(1, 1, " + what + ")", x -> x.mornings(1, 1, what));
        }
        PushedTillItCatches x = told(TEN + "y49;r01;");
        x.parks(10);
        for (int z : new int[] {MIN, MIN + 1, -1, 0, 1, MAX}) {
            // STEEP with 9 makes PACE 7, CAUGHT unless COLD is 9.
            for (int n : new int[] {1, 2, 19, 20}) {
                int caught = 0;
                for (int cold : drawn(z, n, 10)) {
                    caught += cold < 9 ? 1 : 0;
                }
                due("mornings(" + n + ", " + z + ", 0)", x.mornings(n, z, 0), caught);
                due("mornings(" + n + ", " + z + ", 1)", x.mornings(n, z, 1), caught);
            }
        }
        document.says(32, "how many it is CAUGHT in (in some n); all YARDS till then together.");
        due("CAUGHT now, but for COLD", atPace(10, "").mornings(20, 5, 0), 20);
        due("none of the YARDS", told("y00;p11010;w01;r01;").mornings(20, 5, 1), 0);
        due("none CAUGHT", told(FIVE + "g6;").mornings(20, 5, 0), 0);
        due("none CAUGHT, no YARDS", told(FIVE + "g6;").mornings(20, 5, 1), 0);
        due("20 YARDS, 20 mornings", downOnTheLastOf20().mornings(20, 5, 1), 20 * 20);
        due("20 YARDS, one morning", downOnTheLastOf20().mornings(1, 5, 1), 20);
    }

    /** Rolls on by itself: PACE 3 as far as the last YARD, and 10 there, whatever the COLD. */
    private static PushedTillItCatches downOnTheLastOf20() {
        return told("y19;" + "y10;".repeat(18) + "y49;");
    }

    /** So many DRAWS below the bounds (one behind the other, again and again), as they should be. */
    private static int[] drawn(int z, int n, int... bounds) {
        BigInteger seed = BigInteger.valueOf(z);
        int[] drawn = new int[n];
        for (int k = 0; k < n; k++) {
            seed = seed.multiply(BigInteger.valueOf(1103515245)).add(BigInteger.valueOf(12345));
            seed = seed.mod(BigInteger.ONE.shiftLeft(32));
            drawn[k] = seed.mod(BigInteger.ONE.shiftLeft(31)).intValue() / 65536 % bounds[k % bounds.length];
        }
        return drawn;
    }

    private static void draws() {
        document.says(32, "A DRAW below n: z becomes z times 1103515245 plus 12345 (an int); (z without its sign's bit over 65536, cut) modulo n.");
        PushedTillItCatches x = told("y00;y00;p20000;p07000;w01;");
        int[] found = new int[4];
        for (int z : new int[] {MIN, MIN + 1, MIN + 65536, -65536, -2, -1, 0, 1, 2, 65535, 65536, MAX - 1, MAX}) {
            int[] drawn = drawn(z, 60, 10, 41, 41);
            int caught = 0;
            int yards = 0;
            for (int k = 0; k < 60; k += 3) {
                int till = till(drawn[k], drawn[k + 1], drawn[k + 2]);
                caught += till > 0 ? 1 : 0;
                yards += till;
                found[0] += drawn[k] == 9 ? 1 : 0;
                found[1] += drawn[k + 1] == 0 || drawn[k + 2] == 0 ? 1 : 0;
                found[2] += drawn[k + 1] == 40 || drawn[k + 2] == 40 ? 1 : 0;
                found[3] += drawn[k] == 0 ? 1 : 0;
            }
            due("mornings(20, " + z + ", 0)", x.mornings(20, z, 0), caught);
            due("mornings(20, " + z + ", 1)", x.mornings(20, z, 1), yards);
        }
        for (int k = 0; k < found.length; k++) {
            document.holds("the least and the greatest are drawn (" + k + ")", found[k] > 0);
        }
    }

    /** Two YARDS, two PUSHERS of STRENGTH 20 and 7: the n in which it is CAUGHT, 0 for never. */
    private static int till(int cold, int strongBreath, int weakBreath) {
        int pace = 0;
        int low = cold / 3;
        for (int n = 1; n <= 2; n++) {
            int push = (strongBreath >= n ? 20 : 0) + (weakBreath >= n ? 7 : 0);
            pace = Math.max(0, Math.min(24, pace + push - 1));
            boolean first = pace > 4 + low && pace <= 7;
            boolean second = pace > 6 + low && pace <= 12;
            boolean third = pace > 11 + low && pace <= 20;
            if (first || second || third) {
                return n;
            }
        }
        return 0;
    }
}
