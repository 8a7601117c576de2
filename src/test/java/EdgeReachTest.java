/**
 * The Terms' section Intervals: "It FINDS none, if a program of which it is made FINDS none there, or as
 * told here, or if an END would be beyond 64 or -64 (as a number; these themselves are not beyond)."
 */
public final class EdgeReachTest {
    private static final long[] UNITS = {1, 65536, 131072, 16777216};

    public static void main(String[] args) {
        ratioAt64();
        ratioBeyond64();
        sumAt64();
        sumBeyond64();
        differenceAt64();
        differenceBeyond64();
        productAt64();
        productBeyond64();
        inverseAt64();
        inverseBeyond64();
        othersAt64();
        beyondAtLowPlacesAlone();
        ofNone();
        ofNoneAtLowPlacesAlone();
        ofNoneThoughWithin64();
        inverseOfZero();
        expBeyond1();
        expJustBesideOne();
        toldOfNone();
        toldLate();
        toldFromTheFirstPlaceOn();
        toldWithin();
        Check.end("EdgeReachTest");
    }

    /** The ends are so many times 1, and so many units more, at the places 0, 16, 17 and 24. */
    private static void at(Nestlimit x, int program, long times, long low, long high) {
        for (int at = 0; at < UNITS.length; at++) {
            Check.found(x, program, Stock.PLACES[at], times * UNITS[at] + low, times * UNITS[at] + high);
        }
    }

    private static void none(Nestlimit x, int program) {
        for (int place : Stock.PLACES) {
            Check.none(x, program, place);
        }
    }

    private static void noneAtAnyPlace(Nestlimit x, int program) {
        for (int place = 0; place <= 24; place++) {
            Check.none(x, program, place);
        }
    }

    // ---- 64 itself, and what is just within it, just beyond it

    private static void ratioAt64() {
        Nestlimit x = new Nestlimit();
        at(x, x.ratio(64, 1), 64, 0, 0);
        at(x, x.ratio(-64, 1), -64, 0, 0);
        at(x, x.ratio(960, 15), 64, 0, 0);
        at(x, x.ratio(-960, 15), -64, 0, 0);
        int within = x.ratio(959, 15);
        int below = x.ratio(-959, 15);
        Check.found(x, within, 0, 63, 64);
        Check.found(x, within, 24, 1072623342, 1072623343);
        Check.found(x, below, 0, -64, -63);
        Check.found(x, below, 24, -1072623343, -1072623342);
    }

    /** At the place 0 the one end of 961/15 is 64 itself, the other one 65. */
    private static void ratioBeyond64() {
        Nestlimit x = new Nestlimit();
        none(x, x.ratio(961, 15));
        none(x, x.ratio(-961, 15));
        none(x, x.ratio(65, 1));
        none(x, x.ratio(-65, 1));
        none(x, x.ratio(1000, 1));
        none(x, x.ratio(-1000, 1));
    }

    private static void sumAt64() {
        Nestlimit x = Stock.made();
        int most = x.ratio(64, 1);
        int least = x.ratio(-64, 1);
        int tinyBelow = x.difference(Stock.NIL, Stock.TINY);
        at(x, x.sum(most, Stock.NIL), 64, 0, 0);
        at(x, x.sum(Stock.NIL, least), -64, 0, 0);
        at(x, x.sum(most, tinyBelow), 64, -1, 0);
        at(x, x.sum(Stock.TINY, least), -64, 0, 1);
        at(x, x.sum(most, least), 0, 0, 0);
        int half = x.ratio(32, 1);
        int halfBelow = x.ratio(-32, 1);
        at(x, x.sum(half, half), 64, 0, 0);
        at(x, x.sum(halfBelow, halfBelow), -64, 0, 0);
    }

    /** One end is 1 unit beyond, the other one at 64 itself, or 1 unit within. */
    private static void sumBeyond64() {
        Nestlimit x = Stock.made();
        int most = x.ratio(64, 1);
        int least = x.ratio(-64, 1);
        int tinyBelow = x.difference(Stock.NIL, Stock.TINY);
        none(x, x.sum(most, Stock.TINY));
        none(x, x.sum(most, Stock.AROUND));
        none(x, x.sum(most, Stock.ONE));
        none(x, x.sum(most, most));
        none(x, x.sum(least, tinyBelow));
        none(x, x.sum(least, Stock.AROUND));
        none(x, x.sum(least, least));
    }

    private static void differenceAt64() {
        Nestlimit x = Stock.made();
        int most = x.ratio(64, 1);
        int least = x.ratio(-64, 1);
        int tinyBelow = x.difference(Stock.NIL, Stock.TINY);
        at(x, x.difference(most, Stock.NIL), 64, 0, 0);
        at(x, x.difference(Stock.NIL, most), -64, 0, 0);
        at(x, x.difference(Stock.NIL, least), 64, 0, 0);
        at(x, x.difference(most, Stock.TINY), 64, -1, 0);
        at(x, x.difference(Stock.TINY, most), -64, 0, 1);
        at(x, x.difference(least, tinyBelow), -64, 0, 1);
        at(x, x.difference(tinyBelow, least), 64, -1, 0);
        at(x, x.difference(most, most), 0, 0, 0);
    }

    private static void differenceBeyond64() {
        Nestlimit x = Stock.made();
        int most = x.ratio(64, 1);
        int least = x.ratio(-64, 1);
        int tinyBelow = x.difference(Stock.NIL, Stock.TINY);
        none(x, x.difference(most, tinyBelow));
        none(x, x.difference(tinyBelow, most));
        none(x, x.difference(most, Stock.AROUND));
        none(x, x.difference(Stock.AROUND, most));
        none(x, x.difference(least, Stock.TINY));
        none(x, x.difference(Stock.TINY, least));
        none(x, x.difference(most, least));
        none(x, x.difference(least, Stock.ONE));
    }

    private static void productAt64() {
        Nestlimit x = new Nestlimit();
        int eight = x.ratio(8, 1);
        int below = x.ratio(-8, 1);
        at(x, x.product(eight, eight), 64, 0, 0);
        at(x, x.product(below, below), 64, 0, 0);
        at(x, x.product(eight, below), -64, 0, 0);
        int most = x.ratio(64, 1);
        at(x, x.product(most, x.ratio(1, 1)), 64, 0, 0);
        at(x, x.product(most, x.ratio(0, 1)), 0, 0, 0);
        // 129/16 by 127/16 is 16383/256, which is filled to 64 at the place 4.
        int within = x.product(x.ratio(129, 16), x.ratio(127, 16));
        int beneath = x.product(x.ratio(-129, 16), x.ratio(127, 16));
        Check.found(x, within, 4, 1023, 1024);
        Check.found(x, within, 24, 1073676288, 1073676288);
        Check.found(x, beneath, 4, -1024, -1023);
        Check.found(x, beneath, 24, -1073676288, -1073676288);
    }

    /** 145/16 by 113/16 is 16385/256, which is cut to 64 at the place 4, and filled to 1 unit more. */
    private static void productBeyond64() {
        Nestlimit x = Stock.made();
        noneAtAnyPlace(x, x.product(x.ratio(145, 16), x.ratio(113, 16)));
        Nestlimit y = Stock.made();
        noneAtAnyPlace(y, y.product(y.ratio(-145, 16), y.ratio(113, 16)));
        int eight = y.ratio(8, 1);
        int below = y.ratio(-8, 1);
        int more = y.sum(eight, Stock.TINY);
        none(y, y.product(eight, more));
        none(y, y.product(more, below));
        none(y, y.product(y.ratio(64, 1), y.ratio(-64, 1)));
    }

    private static void inverseAt64() {
        Nestlimit x = Stock.made();
        int least = x.ratio(1, 64);
        int below = x.ratio(-1, 64);
        int most = x.inverse(least);
        int lowest = x.inverse(below);
        Check.none(x, most, 5);
        Check.none(x, lowest, 5);
        for (int place : new int[] {6, 16, 17, 24}) {
            long units = 1L << place;
            Check.found(x, most, place, 64 * units, 64 * units);
            Check.found(x, lowest, place, -64 * units, -64 * units);
        }
        // One end of each is 1/64 itself, the other one 1 unit farther from 0.
        int within = x.inverse(x.sum(least, Stock.TINY));
        int beneath = x.inverse(x.difference(below, Stock.TINY));
        Check.found(x, within, 6, 2048, 4096);
        Check.found(x, within, 24, 1073737728, 1073741824);
        Check.found(x, beneath, 6, -4096, -2048);
        Check.found(x, beneath, 24, -1073741824, -1073737728);
    }

    /** One end of each is 1/64 itself, the other one 1 unit nearer to 0; and then 1/65. */
    private static void inverseBeyond64() {
        Nestlimit x = Stock.made();
        int least = x.ratio(1, 64);
        int below = x.ratio(-1, 64);
        noneAtAnyPlace(x, x.inverse(x.difference(least, Stock.TINY)));
        noneAtAnyPlace(x, x.inverse(x.sum(below, Stock.TINY)));
        Nestlimit y = new Nestlimit();
        noneAtAnyPlace(y, y.inverse(y.ratio(1, 65)));
        noneAtAnyPlace(y, y.inverse(y.ratio(-1, 65)));
    }

    /** What can't be beyond 64 if that of which it is made is not. */
    private static void othersAt64() {
        Nestlimit x = Stock.made();
        int most = x.ratio(64, 1);
        int least = x.ratio(-64, 1);
        at(x, x.greater(most, most), 64, 0, 0);
        at(x, x.greater(least, most), 64, 0, 0);
        at(x, x.greater(least, least), -64, 0, 0);
        at(x, x.root(most), 8, 0, 0);
        at(x, x.root(least), 0, 0, 0);
        int inverse = x.inverse(most);
        Check.found(x, inverse, 0, 0, 1);
        Check.found(x, inverse, 24, 262144, 262144);
    }

    /** The intervals shrink: what is beyond 64 at a low place may be within it at a higher one. */
    private static void beyondAtLowPlacesAlone() {
        Nestlimit x = new Nestlimit();
        int sum = x.sum(x.ratio(127, 2), x.ratio(1, 4));
        Check.none(x, sum, 0);
        Check.found(x, sum, 1, 127, 128);
        Check.found(x, sum, 2, 255, 255);
        int difference = x.difference(x.ratio(-127, 2), x.ratio(1, 4));
        Check.none(x, difference, 0);
        Check.found(x, difference, 1, -128, -127);
        Check.found(x, difference, 2, -255, -255);
        int product = x.product(x.ratio(129, 16), x.ratio(127, 16));
        Check.none(x, product, 3);
        Check.found(x, product, 4, 1023, 1024);
    }

    // ---- "if a program of which it is made FINDS none there"

    private static void ofNone() {
        Nestlimit x = Stock.made();
        int no = Stock.NOTHING;
        none(x, x.sum(no, Stock.NIL));
        none(x, x.sum(Stock.NIL, no));
        none(x, x.difference(no, Stock.NIL));
        none(x, x.difference(Stock.NIL, no));
        none(x, x.product(no, Stock.NIL));
        none(x, x.product(Stock.NIL, no));
        none(x, x.greater(no, Stock.NIL));
        none(x, x.greater(Stock.NIL, no));
        none(x, x.inverse(no));
        none(x, x.root(no));
        Nestlimit y = Stock.made();
        none(y, y.exp(no));
        none(y, y.sum(no, no));
        none(y, y.difference(no, no));
        none(y, y.product(no, no));
        none(y, y.greater(no, no));
        none(y, y.root(y.sum(y.root(no), Stock.ONE)));
    }

    /** "there": 3 is found from the place 2 on, and so is what is made of it. */
    private static void ofNoneAtLowPlacesAlone() {
        Nestlimit x = Stock.made();
        int late = x.inverse(Stock.THIRD);
        int sum = x.sum(Stock.ONE, late);
        int difference = x.difference(late, Stock.ONE);
        int product = x.product(Stock.ONE, late);
        int greater = x.greater(late, Stock.NIL);
        int root = x.root(late);
        int inverse = x.inverse(late);
        for (int program = late; program <= inverse; program++) {
            Check.none(x, program, 0);
            Check.none(x, program, 1);
        }
        Check.found(x, late, 2, 8, 16);
        Check.found(x, sum, 2, 12, 20);
        Check.found(x, difference, 2, 4, 12);
        Check.found(x, product, 2, 8, 16);
        Check.found(x, greater, 2, 8, 16);
        Check.found(x, root, 2, 5, 8);
        Check.found(x, inverse, 2, 1, 2);
        Check.found(x, inverse, 24, 5592404, 5592407);
        int exp = x.exp(x.inverse(x.ratio(5, 4)));
        Check.found(x, exp, 0, 0, 4);
        int lateExp = x.exp(x.difference(late, x.ratio(5, 2)));
        Check.none(x, lateExp, 1);
        Check.none(x, lateExp, 3);
        Check.found(x, lateExp, 4, 17, 35);
        Check.found(x, lateExp, 24, 27660941, 27660961);
    }

    /** A part is held against 64, though what is made of it would be within. */
    private static void ofNoneThoughWithin64() {
        Nestlimit x = Stock.made();
        int most = x.ratio(64, 1);
        int beyond = x.sum(most, Stock.ONE);
        none(x, beyond);
        none(x, x.difference(beyond, most));
        none(x, x.product(beyond, Stock.NIL));
        none(x, x.inverse(beyond));
        none(x, x.root(beyond));
        none(x, x.greater(Stock.ONE, x.difference(Stock.NIL, beyond)));
    }

    // ---- "INVERSE: none, if 0 is an END, or between both"

    private static void inverseOfZero() {
        Nestlimit x = Stock.made();
        int tinyBelow = x.difference(Stock.NIL, Stock.TINY);
        noneAtAnyPlace(x, x.inverse(Stock.NIL));
        noneAtAnyPlace(x, x.inverse(Stock.TINY));
        noneAtAnyPlace(x, x.inverse(tinyBelow));
        noneAtAnyPlace(x, x.inverse(Stock.AROUND));
        // [0, 2], [-2, 0], [-1, 3] and [-3, 1] at every place; [1, 2] and [-2, -1] at the place 0.
        Nestlimit y = Stock.made();
        int wide = y.sum(Stock.TINY, Stock.TINY);
        none(y, y.inverse(wide));
        none(y, y.inverse(y.difference(Stock.NIL, wide)));
        none(y, y.inverse(y.sum(Stock.AROUND, wide)));
        none(y, y.inverse(y.difference(Stock.AROUND, wide)));
        int next = y.inverse(y.ratio(4, 3));
        int below = y.inverse(y.ratio(-4, 3));
        Check.found(y, next, 0, 0, 1);
        Check.found(y, next, 24, 12582911, 12582913);
        Check.found(y, below, 0, -1, 0);
        Check.found(y, below, 24, -12582913, -12582911);
    }

    // ---- "EXP: none, if an END is below -N or above N"

    private static void expBeyond1() {
        Nestlimit x = Stock.made();
        int below = x.ratio(-1, 1);
        int within = x.exp(x.difference(Stock.ONE, Stock.TINY));
        int withinBelow = x.exp(x.sum(below, Stock.TINY));
        none(x, x.exp(x.sum(Stock.ONE, Stock.TINY)));
        none(x, x.exp(x.difference(below, Stock.TINY)));
        none(x, x.exp(x.sum(Stock.ONE, Stock.AROUND)));
        none(x, x.exp(x.sum(below, Stock.AROUND)));
        none(x, x.exp(x.ratio(2, 1)));
        none(x, x.exp(x.ratio(-2, 1)));
        none(x, x.exp(x.ratio(64, 1)));
        none(x, x.exp(x.ratio(-64, 1)));
        Check.found(x, within, 0, 0, 4);
        Check.found(x, within, 16, 178140, 178147);
        Check.found(x, within, 17, 356286, 356292);
        Check.found(x, within, 24, 45605196, 45605203);
        Check.found(x, withinBelow, 0, -1, 2);
        Check.found(x, withinBelow, 16, 24107, 24112);
        Check.found(x, withinBelow, 17, 48217, 48221);
        Check.found(x, withinBelow, 24, 6171991, 6171996);
    }

    /** What is beyond 1 as a number is so at every place; what is within it never is, though it is filled. */
    private static void expJustBesideOne() {
        Nestlimit x = new Nestlimit();
        int within = x.exp(x.ratio(3, 4));
        int withinBelow = x.exp(x.ratio(-3, 4));
        Check.found(x, within, 0, 0, 4);
        Check.found(x, within, 1, 2, 7);
        Check.found(x, within, 2, 6, 11);
        Check.found(x, within, 24, 35517365, 35517368);
        Check.found(x, withinBelow, 0, -1, 2);
        Check.found(x, withinBelow, 1, -1, 3);
        Check.found(x, withinBelow, 2, 0, 4);
        Check.found(x, withinBelow, 24, 7924994, 7924997);
        noneAtAnyPlace(x, x.exp(x.ratio(1000, 999)));
        noneAtAnyPlace(x, x.exp(x.ratio(-1000, 999)));
    }

    // ---- "What is TOLD of a program at a PLACE"

    /** "none, if it FINDS none at all of these". */
    private static void toldOfNone() {
        Nestlimit x = Stock.made();
        noneAtAnyPlace(x, Stock.NOTHING);
        int late = x.inverse(x.ratio(1, 64));
        for (int place = 0; place <= 5; place++) {
            Check.none(x, late, place);
        }
        Check.found(x, late, 6, 4096, 4096);
    }

    /** None at 15, at 16, at 23: and from the next place on there is one. */
    private static void toldLate() {
        toldFrom(16, new long[] {4186127, 4194304, 1024, 1027});
        toldFrom(17, new long[] {8380423, 8388608, 2048, 2051});
        toldFrom(20, new long[] {67100672, 67108864, 16384, 16387});
        toldFrom(24, new long[] {1073733632, 1073741824, 262144, 262147});
    }

    private static void toldFrom(int first, long[] ends) {
        Nestlimit x = Stock.made();
        int late = Stock.addLate(x, first);
        for (int place = 0; place < first; place++) {
            Check.none(x, late - 1, place);
            Check.none(x, late, place);
        }
        Check.found(x, late - 1, first, ends[0], ends[1]);
        Check.found(x, late, first, ends[2], ends[3]);
    }

    /** Just at the place at which it is first found it is told of too. */
    private static void toldFromTheFirstPlaceOn() {
        Nestlimit x = new Nestlimit();
        int late = x.inverse(x.ratio(1, 3));
        Check.none(x, late, 1);
        Check.told(x, late, 2, 8, 16);
        Check.told(x, late, 3, 21, 32);
        Check.told(x, late, 4, 42, 52);
    }

    private static Nestlimit mixed() {
        Nestlimit x = Stock.made();
        x.ratio(-22, 7);
        x.zero(-2, 0, 1, 0, 1, 0);
        x.product(8, 9);
        x.exp(x.ratio(2, 3));
        x.root(9);
        Stock.addLate(x, 16);
        return x;
    }

    /** "the greatest LOW END and the least HIGH END, in UNITS of that PLACE": LOW never falls, HIGH never rises. */
    private static void toldWithin() {
        int count = mixed().count();
        for (int program = 0; program < count; program++) {
            Nestlimit x = mixed();
            for (int place = firstTold(x, program) + 1; place <= 24; place++) {
                long low = x.told(program, place, false);
                long high = x.told(program, place, true);
                boolean isWithin = 2 * x.told(program, place - 1, false) <= low && high <= 2 * x.told(program, place - 1, true);
                Check.same("told of " + program + " at " + place + " is within that ahead", "true", "" + isWithin);
                Check.same("told of " + program + " at " + place + " has LOW at most HIGH", "true", "" + (low <= high));
            }
        }
    }

    /** The first place at which something is told, 25 if nothing is. */
    private static int firstTold(Nestlimit x, int program) {
        for (int place = 0; place <= 24; place++) {
            int at = place;
            if (!Check.outcome(() -> x.told(program, at, true)).startsWith("throws")) {
                return place;
            }
        }
        return 25;
    }
}
