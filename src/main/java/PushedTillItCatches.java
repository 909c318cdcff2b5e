/**
 * A street of yards, a car that is pushed along it till it catches, and shelves.
 * What each call must do is told, as numbered promises, in ../shared/DOC.md.
 */
public final class PushedTillItCatches {
    private static final int NO_SUCH = -1;
    private static final int NO_ROOM = -2;
    private static final int NOT_AS_IT_MUST_BE = -3;
    private static final int NONE = -4;
    private static final int NOTHING_HELD = -11;
    private static final int OTHER_KIND = -12;
    private static final int NO_PLACE = -13;
    private static final int SIZE_BELOW_ZERO = -14;
    private static final int NO_FAILURE = -15;
    private static final long NO_SUCH_AS_LONG = -1000000001L;

    private static final int MOST_YARDS = 20;
    private static final int MOST_PUSHERS = 5;
    private static final int MOST_WEIGHT = 20;
    private static final int MOST_PACE = 24;
    private static final int MOST_BREATH = 40;
    private static final int MOST_GAS = 9;
    private static final int MOST_HAND = 9;
    private static final int MOST_MINUTES = 60;
    private static final int MOST_ROLLED = 20;
    private static final int MOST_IN_MIND = 40;
    private static final int MOST_ELEMENTS = 100;
    private static final int SHELVES = 8;
    private static final int GEARS = 3;

    private static final int WEIGHT = 0;
    private static final int COLD = 1;
    private static final int GAS = 2;
    private static final int HAND = 3;

    private static final int DEAD = 0;
    private static final int COUGHS = 1;
    private static final int LOCKED = 2;
    private static final int CAUGHT = 3;
    private static final int DROWNED = 4;
    private static final int DROWNING_GAS = 6;

    private static final int EVERYBODY = (1 << MOST_PUSHERS) - 1;
    private static final int NOBODY = 0;
    private static final int ANY_GEAR = (1 << GEARS) - 1;

    private static final int FLAT = 1;
    private static final int DAMP = 2;
    private static final int FULL_OF_GAS = 4;
    private static final int ALL_CAUSES = FLAT | DAMP | FULL_OF_GAS;

    private static final int HOLDS_NOTHING = 0;
    private static final int HOLDS_YARD = 1;
    private static final int HOLDS_ROW = 2;

    private static final int BYTES = 0;
    private static final int SHORTS = 1;
    private static final int INTS = 2;

    private static final int SHAPE_FAULT = -1000;
    private static final int STATEMENT_FAULT = -2000;

    private final Street now = new Street();
    private final Street taken = new Street();
    private boolean isTaken;

    // Made once and used again by every call: what is thought through never touches what is.
    private final Street thought = new Street();
    private final Street secondThought = new Street();

    private final int[] holds = new int[SHELVES];
    private final Yard[] yardsHeld = new Yard[SHELVES];
    private final Row[] rowsHeld = new Row[SHELVES];

    public PushedTillItCatches() {
        for (int d = 0; d < SHELVES; d++) {
            rowsHeld[d] = new Row();
        }
    }

    // ---- the street as told

    public int street(int d) {
        Row row = rowOn(d);
        if (row == null) {
            return whyNot(d);
        }
        if (row.sort != BYTES) {
            return OTHER_KIND;
        }
        Text text = new Text(row);
        int off = text.firstByteOff();
        if (off >= 0) {
            return SHAPE_FAULT - off;
        }
        Street street = inMind();
        int came = text.readInto(street);
        if (came >= 0) {
            now.becomes(street);
        }
        return came;
    }

    public int yard(int y, int what) {
        Yard yard = now.yardAt(y);
        if (yard == null) {
            return NO_SUCH;
        }
        switch (what) {
            case 0: return yard.kind;
            case 1: return yard.figure;
            case 2: return yard.gives() + 10;
            case 3: return yard.grip();
            default: return NO_SUCH;
        }
    }

    public int pusher(int p, int what) {
        if (!within(p, 0, now.pusherCount - 1)) {
            return NO_SUCH;
        }
        switch (what) {
            case 0: return now.strengths[p];
            case 1: return now.breaths[p];
            case 2: return now.shoes[p];
            default: return NO_SUCH;
        }
    }

    public int lays(int d) {
        Yard yard = yardOn(d);
        return yard == null ? whyNot(d) : now.addYard(yard);
    }

    public int set(int what, int v) {
        return now.change(what, v);
    }

    public int parks(int at) {
        if (!within(at, 0, now.yardCount)) {
            return NO_SUCH;
        }
        int before = now.at;
        now.standAt(at);
        now.runs = false;
        return before;
    }

    public int rolls(int n) {
        return now.rollSome(n);
    }

    public int tries(int gear) {
        return now.tryGear(gear);
    }

    public int waits(int minutes) {
        return now.waitFor(minutes);
    }

    // ---- in mind

    public int behind(int n, int what) {
        if (!within(n, 0, MOST_IN_MIND) || !within(what, 0, 2)) {
            return NO_SUCH;
        }
        if (now.runs) {
            return NOT_AS_IT_MUST_BE;
        }
        Street street = inMind();
        for (int k = 0; k < n; k++) {
            street.rollYard(EVERYBODY);
        }
        switch (what) {
            case 0: return street.pace;
            case 1: return street.at;
            default: return street.allBreaths();
        }
    }

    public int catches(int what) {
        if (!within(what, 0, 2)) {
            return NO_SUCH;
        }
        if (now.runs) {
            return NOT_AS_IT_MUST_BE;
        }
        Street street = inMind();
        int n = street.rollTillCaught(EVERYBODY, ANY_GEAR);
        if (n == NONE || what == 0) {
            return n;
        }
        return what == 1 ? street.leastCaught(ANY_GEAR) : street.pace;
    }

    public int inGear(int gear) {
        if (!isGear(gear)) {
            return NO_SUCH;
        }
        return now.runs ? NOT_AS_IT_MUST_BE : inMind().rollTillCaught(EVERYBODY, bitOf(gear));
    }

    public int curve(int gear, int what) {
        if (!isGear(gear)) {
            return NO_SUCH;
        }
        switch (what) {
            case 0: return now.lowOf(gear);
            case 1: return highOf(gear);
            case 2: return pacesCaught(gear);
            default: return NO_SUCH;
        }
    }

    private int pacesCaught(int gear) {
        int caught = 0;
        for (int pace = 0; pace <= MOST_PACE; pace++) {
            if (now.comesOf(gear, pace) == CAUGHT) {
                caught++;
            }
        }
        return caught;
    }

    public int who() {
        if (now.runs) {
            return NOT_AS_IT_MUST_BE;
        }
        int fewest = NONE;
        for (int some = 0; some < 1 << now.pusherCount; some++) {
            boolean fewer = fewest == NONE || Integer.bitCount(some) < Integer.bitCount(fewest);
            if (fewer && isCaughtBy(some)) {
                fewest = some;
            }
        }
        return fewest;
    }

    public int leaveOne() {
        if (now.runs) {
            return NOT_AS_IT_MUST_BE;
        }
        int left = NONE;
        int strongest = -1;
        for (int p = 0; p < now.pusherCount; p++) {
            if (now.strengths[p] > strongest && isCaughtBy(EVERYBODY & ~(1 << p))) {
                left = p;
                strongest = now.strengths[p];
            }
        }
        return left;
    }

    private boolean isCaughtBy(int pushing) {
        return inMind().rollTillCaught(pushing, ANY_GEAR) != NONE;
    }

    public int alone() {
        if (now.runs) {
            return NOT_AS_IT_MUST_BE;
        }
        Street pushed = inMind();
        for (int n = 0; n <= MOST_IN_MIND; n++) {
            secondThought.becomes(pushed);
            if (secondThought.rollTillCaught(NOBODY, ANY_GEAR) != NONE) {
                return n;
            }
            pushed.rollYard(EVERYBODY);
        }
        return NONE;
    }

    public int pushUp(int what) {
        if (!within(what, 0, 1)) {
            return NO_SUCH;
        }
        if (now.runs) {
            return NOT_AS_IT_MUST_BE;
        }
        for (int back = 0; back <= now.at; back++) {
            Street street = inMind();
            if (!street.pushBack(back)) {
                return NONE;
            }
            int n = street.rollTillCaught(EVERYBODY, ANY_GEAR);
            if (n != NONE) {
                return what == 0 ? back : n;
            }
        }
        return NONE;
    }

    public int howLong() {
        if (now.runs) {
            return NOT_AS_IT_MUST_BE;
        }
        for (int minutes = 0; minutes <= MOST_MINUTES; minutes++) {
            Street street = inMind();
            // No minutes are no wait at all: the pace stays then.
            if (minutes > 0) {
                street.waitFor(minutes);
            }
            if (street.rollTillCaught(EVERYBODY, ANY_GEAR) != NONE) {
                return minutes;
            }
        }
        return NONE;
    }

    public int hand() {
        if (now.runs) {
            return NOT_AS_IT_MUST_BE;
        }
        for (int hand = 0; hand <= MOST_HAND; hand++) {
            if (yardsWithHand(hand) != NONE) {
                return hand;
            }
        }
        return NONE;
    }

    public int showing() {
        if (now.runs) {
            return NOT_AS_IT_MUST_BE;
        }
        int gentlest = yardsWithHand(MOST_HAND);
        if (gentlest == NONE) {
            return NONE;
        }
        int asItIs = yardsWithHand(now.hand);
        return (asItIs == NONE ? MOST_IN_MIND + 1 : asItIs) - gentlest;
    }

    private int yardsWithHand(int hand) {
        Street street = inMind();
        street.hand = hand;
        return street.rollTillCaught(EVERYBODY, ANY_GEAR);
    }

    public int park() {
        int best = NONE;
        int soonest = MOST_IN_MIND + 1;
        for (int at = 0; at <= now.yardCount; at++) {
            Street street = inMind();
            street.standAt(at);
            int n = street.rollTillCaught(NOBODY, ANY_GEAR);
            if (n != NONE && n < soonest) {
                best = at;
                soonest = n;
            }
        }
        return best;
    }

    public int downTo() {
        if (now.runs) {
            return NOT_AS_IT_MUST_BE;
        }
        Street street = inMind();
        int greatest = street.pace;
        for (int n = 0; n < MOST_IN_MIND; n++) {
            street.rollYard(EVERYBODY);
            greatest = Math.max(greatest, street.pace);
        }
        return greatest;
    }

    public int safe() {
        if (now.runs) {
            return NOT_AS_IT_MUST_BE;
        }
        Street street = inMind();
        int crossing = street.firstCrossing();
        if (crossing == NONE) {
            return 1;
        }
        for (int n = 0; n < MOST_IN_MIND; n++) {
            street.rollYard(NOBODY);
        }
        return street.at <= crossing ? 1 : 0;
    }

    // ---- coughs

    public long odds(int gear, int pace, int n, int part) {
        boolean told = isGear(gear) && within(pace, 0, MOST_PACE) && within(n, 0, 8) && within(part, 0, 1);
        if (!told) {
            return NO_SUCH_AS_LONG;
        }
        long all = 1;
        long neverCatches = 1;
        int misses = 10 - tenthsOf(gear, pace);
        for (int k = 0; k < n; k++) {
            all *= 10;
            neverCatches *= misses;
        }
        long catches = all - neverCatches;
        return (part == 0 ? catches : all) / greatestDivisor(all, catches);
    }

    private int tenthsOf(int gear, int pace) {
        int low = now.lowOf(gear);
        return within(pace, low, highOf(gear)) ? Math.min(9, pace - low) : 0;
    }

    /** Of two numbers of which the first is above 0. */
    private static long greatestDivisor(long first, long second) {
        long a = first;
        long b = second;
        for (int k = 0; k < 100 && b != 0; k++) {
            long rest = a % b;
            a = b;
            b = rest;
        }
        return Math.max(1, a);
    }

    public int what(int d) {
        Row row = rowOn(d);
        if (row == null) {
            return whyNot(d);
        }
        return row.isAllWithin(0, 2) ? causesOf(row) : NO_PLACE;
    }

    public int tryNext(int d) {
        Row row = rowOn(d);
        if (row == null) {
            return whyNot(d);
        }
        if (!row.isAllWithin(0, 2)) {
            return NO_PLACE;
        }
        int causes = causesOf(row);
        if (Integer.bitCount(causes) < 2) {
            return NONE;
        }
        int best = NONE;
        int mostOut = -1;
        for (int cough = 0; cough <= 2; cough++) {
            int out = Integer.bitCount(causes & ~causesOfCough(row.size, row.at(row.size - 1), cough));
            if (out > mostOut) {
                best = cough;
                mostOut = out;
            }
        }
        return best;
    }

    private static int causesOf(Row row) {
        int causes = ALL_CAUSES;
        for (int i = 0; i < row.size; i++) {
            causes &= causesOfCough(i, row.at(i - 1), row.at(i));
        }
        return causes;
    }

    /** By what a cough could come at the TRY of a place, right behind the cough told as last. */
    private static int causesOfCough(int place, int last, int cough) {
        int causes = cough == 0 ? FULL_OF_GAS : 0;
        if (cough != 2 || last == 1) {
            causes |= FLAT;
        }
        if (cough != 2 || place >= 2) {
            causes |= DAMP;
        }
        return causes;
    }

    public int gettingIn(int gear) {
        if (!isGear(gear)) {
            return NO_SUCH;
        }
        if (now.runs) {
            return NOT_AS_IT_MUST_BE;
        }
        Street street = inMind();
        int in = 0;
        for (int n = 0; n <= MOST_IN_MIND; n++) {
            if (street.comesOf(gear, street.pace) == CAUGHT) {
                return in;
            }
            if (in < street.pusherCount && !street.isAtEnd()) {
                in++;
                street.weight = Math.min(MOST_WEIGHT, street.weight + 1);
            }
            street.rollYard(EVERYBODY << in);
        }
        return NONE;
    }

    // ---- marks, told paces

    public int marks(int d, int what) {
        if (!within(what, 0, 1)) {
            return NO_SUCH;
        }
        Row row = rowOn(d);
        if (row == null) {
            return whyNot(d);
        }
        if (!row.isAllWithin(0, MOST_PACE)) {
            return NO_PLACE;
        }
        int gears = ANY_GEAR;
        for (int i = 0; i < row.size; i++) {
            gears &= gearsLockedAt(row.at(i));
        }
        return what == 0 ? Integer.bitCount(gears) : leastGear(gears);
    }

    public int forged(int d) {
        Row row = rowOn(d);
        if (row == null) {
            return whyNot(d);
        }
        if (!row.isAllWithin(0, MOST_PACE)) {
            return NO_PLACE;
        }
        int gears = ANY_GEAR;
        for (int i = 0; i < row.size; i++) {
            gears &= gearsLockedAt(row.at(i));
            if (gears == 0) {
                return i;
            }
        }
        return NONE;
    }

    private static int gearsLockedAt(int pace) {
        int gears = 0;
        for (int gear = 1; gear <= GEARS; gear++) {
            if (pace > highOf(gear)) {
                gears |= bitOf(gear);
            }
        }
        return gears;
    }

    private static int leastGear(int gears) {
        for (int gear = 1; gear <= GEARS; gear++) {
            if ((gears & bitOf(gear)) != 0) {
                return gear;
            }
        }
        return NONE;
    }

    public int judge(int d) {
        Row row = rowOn(d);
        if (row == null) {
            return whyNot(d);
        }
        if (now.runs) {
            return NOT_AS_IT_MUST_BE;
        }
        Street street = inMind();
        for (int i = 0; i < row.size; i++) {
            int told = row.at(i);
            // In mind nothing is rolled beyond 40 YARDS: what is told of it is not so, whatever it is.
            boolean isSo = i <= MOST_IN_MIND && told == street.pace;
            if (told != row.leastNumber() && !isSo) {
                return i;
            }
            street.rollYard(EVERYBODY);
        }
        return NONE;
    }

    public int mornings(int n, int z, int what) {
        if (!within(n, 1, 20) || !within(what, 0, 1)) {
            return NO_SUCH;
        }
        if (now.runs) {
            return NOT_AS_IT_MUST_BE;
        }
        int seed = z;
        int caught = 0;
        int yards = 0;
        for (int k = 0; k < n; k++) {
            Street street = inMind();
            seed = nextSeed(seed);
            street.cold = drawBelow(10, seed);
            for (int p = 0; p < street.pusherCount; p++) {
                seed = nextSeed(seed);
                street.breaths[p] = drawBelow(MOST_BREATH + 1, seed);
            }
            int till = street.rollTillCaught(EVERYBODY, ANY_GEAR);
            if (till != NONE) {
                caught++;
                yards += till;
            }
        }
        return what == 0 ? caught : yards;
    }

    private static int nextSeed(int seed) {
        return seed * 1103515245 + 12345;
    }

    private static int drawBelow(int bound, int seed) {
        return (seed & 0x7fffffff) / 65536 % Math.max(1, bound);
    }

    // ---- the image, what is told

    public int image() {
        taken.becomes(now);
        isTaken = true;
        return now.at;
    }

    public int restore() {
        if (!isTaken) {
            return NOT_AS_IT_MUST_BE;
        }
        now.becomes(taken);
        return now.at;
    }

    public int count(int what) {
        switch (what) {
            case 0: return now.yardCount;
            case 1: return now.pusherCount;
            case 2: return now.at;
            case 3: return now.pace;
            case 4: return now.runs ? 1 : 0;
            case 5: return now.gas;
            case 6: return now.allBreaths();
            case 7: return now.allStrengths();
            default: return NO_SUCH;
        }
    }

    // ---- shelves

    public int keep(int d, int what, int k, int figure) {
        if (!isShelf(d) || !within(what, 0, 1)) {
            return NO_SUCH;
        }
        if (what == 0) {
            holds[d] = HOLDS_NOTHING;
            return 0;
        }
        Yard yard = makeYard(k, figure);
        if (yard == null) {
            return NO_SUCH;
        }
        yardsHeld[d] = yard;
        holds[d] = HOLDS_YARD;
        return 0;
    }

    public int row(int d, int sort, int n) {
        if (!isShelf(d) || !within(sort, BYTES, INTS) || n > MOST_ELEMENTS) {
            return NO_SUCH;
        }
        if (n < 0) {
            return SIZE_BELOW_ZERO;
        }
        rowsHeld[d].beginAnew(sort, n);
        holds[d] = HOLDS_ROW;
        return 0;
    }

    public int put(int d, int i, int v) {
        Row row = rowOn(d);
        if (row == null) {
            return whyNot(d);
        }
        if (!row.has(i)) {
            return NO_PLACE;
        }
        row.write(i, v);
        return 0;
    }

    public long element(int d, int i) throws IllegalArgumentException, IllegalStateException {
        if (!isShelf(d)) {
            throw new IllegalArgumentException("no such shelf");
        }
        Row row = rowOn(d);
        if (row == null) {
            throw new IllegalStateException("no row");
        }
        if (!row.has(i)) {
            throw new IllegalStateException("no such place");
        }
        return row.at(i);
    }

    public int copy(int d, int i, int e, int j, int n) {
        if (!isShelf(d) || !isShelf(e)) {
            return NO_SUCH;
        }
        if (holds[d] == HOLDS_NOTHING || holds[e] == HOLDS_NOTHING) {
            return NOTHING_HELD;
        }
        Row from = rowOn(d);
        Row to = rowOn(e);
        if (from == null || to == null || from.sort != to.sort) {
            return OTHER_KIND;
        }
        if (!from.hasSome(i, n) || !to.hasSome(j, n)) {
            return NO_PLACE;
        }
        System.arraycopy(from.elements, i, to.elements, j, n);
        return n;
    }

    public int cost(int d) {
        Yard yard = yardOn(d);
        return yard == null ? whyNot(d) : yard.price();
    }

    public int toss(int d) {
        Yard yard = yardOn(d);
        if (yard == null) {
            return whyNot(d);
        }
        try {
            yard.fail();
            return NO_FAILURE;
        } catch (UnsupportedOperationException failureOfSteep) {
            return 200 + yard.price();
        } catch (IllegalArgumentException failureOfDown) {
            return 100 + yard.figure;
        } catch (IllegalStateException failureOfYard) {
            return yard.figure;
        }
    }

    private static boolean isShelf(int d) {
        return within(d, 0, SHELVES - 1);
    }

    /** The ROW on a SHELF; null, if there is none. */
    private Row rowOn(int d) {
        return isShelf(d) && holds[d] == HOLDS_ROW ? rowsHeld[d] : null;
    }

    /** The YARD's KIND on a SHELF; null, if there is none. */
    private Yard yardOn(int d) {
        return isShelf(d) && holds[d] == HOLDS_YARD ? yardsHeld[d] : null;
    }

    /** Why a SHELF does not hold what is wanted. */
    private int whyNot(int d) {
        if (!isShelf(d)) {
            return NO_SUCH;
        }
        return holds[d] == HOLDS_NOTHING ? NOTHING_HELD : OTHER_KIND;
    }

    // ---- what all of it is made of

    private Street inMind() {
        thought.becomes(now);
        return thought;
    }

    private static boolean within(int v, int least, int most) {
        return v >= least && v <= most;
    }

    private static boolean isGear(int gear) {
        return within(gear, 1, GEARS);
    }

    private static int bitOf(int gear) {
        return 1 << (gear - 1);
    }

    private static int highOf(int gear) {
        return gear == 1 ? 7 : gear == 2 ? 12 : 20;
    }

    /** A YARD of a KIND with a FIGURE; null, if there is no such one. */
    private static Yard makeYard(int kind, int figure) {
        if (!within(figure, 0, 9)) {
            return null;
        }
        switch (kind) {
            case 0: return new Yard(kind, figure);
            case 1: return new Down(kind, figure);
            case 2: return new Up(kind, figure);
            case 3: return new Wet(kind, figure);
            case 4: return new Steep(kind, figure);
            case 5: return new Icy(kind, figure);
            case 6: return new Crossing(kind, figure);
            case 7: return new Church(kind, figure);
            default: return null;
        }
    }

    private static class Yard {
        final int kind;
        final int figure;

        Yard(int kind, int figure) {
            this.kind = kind;
            this.figure = figure;
        }

        int gives() {
            return 0;
        }

        int grip() {
            return 10;
        }

        int price() {
            return 2;
        }

        /** Throws its FAILURE, if it has one. */
        void fail() {
            if (figure > 0) {
                throw new IllegalStateException("a yard fails");
            }
        }
    }

    private static class Down extends Yard {
        Down(int kind, int figure) {
            super(kind, figure);
        }

        int gives() {
            return 1 + figure / 3;
        }

        int price() {
            return super.price() + figure;
        }

        void fail() {
            if (figure > 0) {
                throw new IllegalArgumentException("a yard down fails");
            }
        }
    }

    private static final class Up extends Down {
        Up(int kind, int figure) {
            super(kind, figure);
        }

        int gives() {
            return -super.gives();
        }

        int grip() {
            return super.grip() - figure / 2;
        }

        int price() {
            return 2 * super.price();
        }
    }

    private static class Wet extends Yard {
        Wet(int kind, int figure) {
            super(kind, figure);
        }

        int grip() {
            return super.grip() - 5;
        }

        int price() {
            return super.price() + 3;
        }
    }

    private static final class Steep extends Down {
        Steep(int kind, int figure) {
            super(kind, figure);
        }

        int gives() {
            return 2 * super.gives();
        }

        int price() {
            return super.price() + 5;
        }

        void fail() {
            if (figure > 0) {
                throw new UnsupportedOperationException("a steep yard fails");
            }
        }
    }

    private static final class Icy extends Wet {
        Icy(int kind, int figure) {
            super(kind, figure);
        }

        int gives() {
            return super.gives() + 1;
        }

        int grip() {
            return super.grip() / 5;
        }

        int price() {
            return super.price() / 2;
        }
    }

    private static class Crossing extends Yard {
        Crossing(int kind, int figure) {
            super(kind, figure);
        }

        int grip() {
            return 0;
        }

        int price() {
            return super.price() - 1;
        }

        void fail() {
            // Crossings and churches have no failure, whatever their figure.
        }
    }

    private static final class Church extends Crossing {
        Church(int kind, int figure) {
            super(kind, figure);
        }

        int gives() {
            return super.gives() - 1;
        }

        int price() {
            return super.price() + figure;
        }
    }

    /** All that there is but shelves. What it does answers as the calls do: below 0 it is refused. */
    private static final class Street {
        final Yard[] yards = new Yard[MOST_YARDS];
        int yardCount;
        final int[] strengths = new int[MOST_PUSHERS];
        final int[] breaths = new int[MOST_PUSHERS];
        final int[] shoes = new int[MOST_PUSHERS];
        int pusherCount;
        int weight = 8;
        int cold = 3;
        int gas;
        int hand;
        int at;
        int pace;
        boolean runs;

        void becomes(Street other) {
            yardCount = other.yardCount;
            for (int y = 0; y < yardCount; y++) {
                yards[y] = other.yards[y];
            }
            pusherCount = other.pusherCount;
            for (int p = 0; p < pusherCount; p++) {
                strengths[p] = other.strengths[p];
                breaths[p] = other.breaths[p];
                shoes[p] = other.shoes[p];
            }
            weight = other.weight;
            cold = other.cold;
            gas = other.gas;
            hand = other.hand;
            at = other.at;
            pace = other.pace;
            runs = other.runs;
        }

        int addYard(Yard yard) {
            if (yard == null) {
                return NO_SUCH;
            }
            if (yardCount >= MOST_YARDS) {
                return NO_ROOM;
            }
            yards[yardCount] = yard;
            yardCount++;
            return yardCount - 1;
        }

        int addPusher(int strength, int breath, int shoe) {
            if (!within(strength, 0, 20) || !within(breath, 0, MOST_BREATH) || !within(shoe, 0, 1)) {
                return NO_SUCH;
            }
            if (pusherCount >= MOST_PUSHERS) {
                return NO_ROOM;
            }
            strengths[pusherCount] = strength;
            breaths[pusherCount] = breath;
            shoes[pusherCount] = shoe;
            pusherCount++;
            return pusherCount - 1;
        }

        /** WEIGHT, COLD, GAS or HAND becomes v: what it was. */
        int change(int what, int v) {
            boolean fits = what == WEIGHT ? within(v, 1, MOST_WEIGHT) : within(v, 0, 9);
            if (!fits) {
                return NO_SUCH;
            }
            int before;
            switch (what) {
                case WEIGHT:
                    before = weight;
                    weight = v;
                    return before;
                case COLD:
                    before = cold;
                    cold = v;
                    return before;
                case GAS:
                    before = gas;
                    gas = v;
                    return before;
                case HAND:
                    before = hand;
                    hand = v;
                    return before;
                default:
                    return NO_SUCH;
            }
        }

        /** The YARD of a number; null, if there is no such one. */
        Yard yardAt(int y) {
            return within(y, 0, yardCount - 1) ? yards[y] : null;
        }

        boolean isAtEnd() {
            return at >= yardCount;
        }

        void standAt(int place) {
            at = place;
            pace = 0;
        }

        int firstCrossing() {
            for (int y = at; y < yardCount; y++) {
                if (yardAt(y) instanceof Crossing) {
                    return y;
                }
            }
            return NONE;
        }

        int allBreaths() {
            int all = 0;
            for (int p = 0; p < pusherCount; p++) {
                all += breaths[p];
            }
            return all;
        }

        int allStrengths() {
            int all = 0;
            for (int p = 0; p < pusherCount; p++) {
                all += strengths[p];
            }
            return all;
        }

        int rollSome(int n) {
            if (!within(n, 1, MOST_ROLLED)) {
                return NO_SUCH;
            }
            if (runs || isAtEnd()) {
                return NOT_AS_IT_MUST_BE;
            }
            for (int k = 0; k < n; k++) {
                rollYard(EVERYBODY);
            }
            return pace;
        }

        /** One YARD is rolled, pushed by those whose bits are set; AT the end that is nothing. */
        void rollYard(int pushing) {
            Yard yard = yardAt(at);
            if (yard == null) {
                return;
            }
            int pushed = takePush(yard.grip(), pushing) / Math.max(1, weight);
            pace = Math.max(0, Math.min(MOST_PACE, pace + yard.gives() + pushed - 1));
            if (pace > 0) {
                at++;
            }
        }

        int takePush(int grip, int pushing) {
            int push = 0;
            for (int p = 0; p < pusherCount; p++) {
                if ((pushing >> p & 1) == 1 && breaths[p] > 0) {
                    int ownGrip = shoes[p] == 1 && grip != 0 ? 10 : grip;
                    push += strengths[p] * ownGrip / 10;
                    breaths[p]--;
                }
            }
            return push;
        }

        int lowOf(int gear) {
            int low = gear == 1 ? 4 : gear == 2 ? 6 : 11;
            return low + cold / 3 - hand / 4;
        }

        /** What would come of a TRY in a GEAR, if the PACE were as told. */
        int comesOf(int gear, int paceThen) {
            if (gas >= DROWNING_GAS) {
                return DROWNED;
            }
            int low = lowOf(gear);
            if (paceThen < low) {
                return DEAD;
            }
            if (paceThen > highOf(gear)) {
                return LOCKED;
            }
            return paceThen == low ? COUGHS : CAUGHT;
        }

        int tryGear(int gear) {
            if (!isGear(gear)) {
                return NO_SUCH;
            }
            if (runs) {
                return NOT_AS_IT_MUST_BE;
            }
            int came = comesOf(gear, pace);
            if (came == CAUGHT) {
                runs = true;
                return came;
            }
            if (came == LOCKED) {
                pace = 0;
            } else if (came != DROWNED) {
                pace /= 2;
            }
            gas = Math.min(MOST_GAS, gas + 1);
            return came;
        }

        int waitFor(int minutes) {
            if (!within(minutes, 1, MOST_MINUTES)) {
                return NO_SUCH;
            }
            if (runs) {
                return NOT_AS_IT_MUST_BE;
            }
            pace = 0;
            gas = Math.max(0, gas - minutes / 5);
            for (int p = 0; p < pusherCount; p++) {
                breaths[p] = Math.min(MOST_BREATH, breaths[p] + minutes / 2);
            }
            return gas;
        }

        /** The least of the GEARS (bits) in which it would be CAUGHT now; 0, if there is none. */
        int leastCaught(int gears) {
            for (int gear = 1; gear <= GEARS; gear++) {
                if ((gears & bitOf(gear)) != 0 && comesOf(gear, pace) == CAUGHT) {
                    return gear;
                }
            }
            return 0;
        }

        /** Rolls till it would be CAUGHT in one of the GEARS (bits): how many YARDS; NONE, if never. */
        int rollTillCaught(int pushing, int gears) {
            for (int n = 0; n <= MOST_IN_MIND; n++) {
                if (leastCaught(gears) > 0) {
                    return n;
                }
                if (isAtEnd() || gas >= DROWNING_GAS) {
                    return NONE;
                }
                rollYard(pushing);
                // What stands once stands for good: the push in a yard never grows.
                if (pace == 0) {
                    return NONE;
                }
            }
            return NONE;
        }

        /** Pushes it back so many YARDS, where it stands then (0: all as it is): whether that can be. */
        boolean pushBack(int back) {
            for (int k = 0; k < back; k++) {
                if (allBreaths() == 0) {
                    return false;
                }
                for (int p = 0; p < pusherCount; p++) {
                    breaths[p] = Math.max(0, breaths[p] - 1);
                }
                standAt(at - 1);
            }
            return true;
        }
    }

    private static final class Row {
        final int[] elements = new int[MOST_ELEMENTS];
        int sort;
        int size;

        void beginAnew(int newSort, int newSize) {
            sort = newSort;
            size = newSize;
            for (int i = 0; i < MOST_ELEMENTS; i++) {
                elements[i] = 0;
            }
        }

        boolean has(int i) {
            return within(i, 0, size - 1);
        }

        boolean hasSome(int from, int n) {
            return within(from, 0, size) && within(n, 0, size - from);
        }

        /** The element of a place; 0, if there is no such place. */
        int at(int i) {
            return has(i) ? elements[i] : 0;
        }

        void write(int i, int v) {
            if (has(i)) {
                elements[i] = sort == BYTES ? (byte) v : sort == SHORTS ? (short) v : v;
            }
        }

        int leastNumber() {
            return sort == BYTES ? -128 : sort == SHORTS ? -32768 : -2147483648;
        }

        boolean isAllWithin(int least, int most) {
            for (int i = 0; i < size; i++) {
                if (!within(at(i), least, most)) {
                    return false;
                }
            }
            return true;
        }
    }

    /** THE TEXT of a STREET, read from a ROW of bytes. */
    private static final class Text {
        final Row bytes;

        Text(Row bytes) {
            this.bytes = bytes;
        }

        /** How many digits stand behind the letter at a place; 0, if no STATEMENT begins there. */
        int digitsBehind(int place) {
            switch (bytes.at(place)) {
                case 'p':
                    return 5;
                case 'y': case 'w': case 'r': case 'm':
                    return 2;
                case 'c': case 'g': case 'h': case 't':
                    return 1;
                default:
                    return 0;
            }
        }

        /** The place of the first byte with which no STREET can go on; -1, if there is none. */
        int firstByteOff() {
            // There is one STATEMENT at least: an empty text lacks it at its end.
            if (bytes.size == 0) {
                return 0;
            }
            for (int place = 0; place < bytes.size; place += digitsBehind(place) + 2) {
                int digits = digitsBehind(place);
                if (digits == 0) {
                    return place;
                }
                for (int k = 1; k <= digits; k++) {
                    if (!within(bytes.at(place + k), '0', '9')) {
                        return place + k;
                    }
                }
                if (bytes.at(place + digits + 1) != ';') {
                    return place + digits + 1;
                }
            }
            return -1;
        }

        /** Does a text of the right shape: how many STATEMENTS, or the FAULT of kind 2. */
        int readInto(Street street) {
            int statements = 0;
            for (int place = 0; place < bytes.size; place += digitsBehind(place) + 2) {
                if (doStatement(place, street) < 0) {
                    return STATEMENT_FAULT - place;
                }
                statements++;
            }
            return statements;
        }

        int doStatement(int place, Street street) {
            switch (bytes.at(place)) {
                case 'y': return street.addYard(makeYard(number(place + 1, 1), number(place + 2, 1)));
                case 'p': return street.addPusher(number(place + 1, 2), number(place + 3, 2), number(place + 5, 1));
                case 'w': return street.change(WEIGHT, number(place + 1, 2));
                case 'c': return street.change(COLD, number(place + 1, 1));
                case 'g': return street.change(GAS, number(place + 1, 1));
                case 'h': return street.change(HAND, number(place + 1, 1));
                case 'r': return street.rollSome(number(place + 1, 2));
                case 't': return street.tryGear(number(place + 1, 1));
                case 'm': return street.waitFor(number(place + 1, 2));
                default: return NO_SUCH;
            }
        }

        int number(int place, int digits) {
            int n = 0;
            for (int k = 0; k < digits; k++) {
                n = 10 * n + bytes.at(place + k) - '0';
            }
            return n;
        }
    }
}
