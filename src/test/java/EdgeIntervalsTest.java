/**
 * The Terms' section Intervals: what each kind of program finds, cut and filled on either side of 0, at
 * the places 0, 16, 17 and 24. What finds none, and 64, stands in EdgeReachTest.
 */
public final class EdgeIntervalsTest {
    /** Both ends at the places 0 to 24, one behind the other. */
    private static final long[] EXP_OF_8_BY_9 = {
        0, 4, 2, 7, 6, 12, 17, 23, 36, 43,
        74, 82, 152, 158, 307, 314, 619, 626, 1243, 1249,
        2488, 2495, 4978, 4986, 9959, 9965, 19923, 19929, 39849, 39856,
        79703, 79710, 159409, 159415, 318819, 318826, 637642, 637648, 1275287, 1275294,
        2550579, 2550586, 5101164, 5101170, 10202329, 10202336, 20404660, 20404667, 40809323, 40809330,
    };

    public static void main(String[] args) {
        unitsOfPlaces();
        cutAndFill();
        cutAndFillOnTheSpot();
        ratio();
        sum();
        difference();
        product();
        productOfSigns();
        greater();
        inverse();
        root();
        rootOfBelowZero();
        rootJustBesideASquare();
        exp();
        expOfEveryPlace();
        zeroFrom16On();
        zeroOnTheSpot();
        zeroFirstStep();
        zeroBySign();
        zeroOfThree();
        Check.end("EdgeIntervalsTest");
    }

    /** Both ends at the places 0, 16, 17 and 24. */
    private static void at(Nestlimit x, int program, long... ends) {
        for (int at = 0; at < Stock.PLACES.length; at++) {
            Check.found(x, program, Stock.PLACES[at], ends[2 * at], ends[2 * at + 1]);
        }
    }

    /** 22/7, -22/7, 5/8 and -5/8. */
    private static Nestlimit four() {
        Nestlimit x = new Nestlimit();
        x.ratio(22, 7);
        x.ratio(-22, 7);
        x.ratio(5, 8);
        x.ratio(-5, 8);
        return x;
    }

    /** "whole numbers of UNITS, of which 2 to the power of the PLACE are 1", at all 25 places. */
    private static void unitsOfPlaces() {
        Nestlimit x = new Nestlimit();
        x.ratio(-3, 1);
        x.zero(-1, 2, 0, 0, 0, 0);
        for (int place = 0; place <= 24; place++) {
            long units = 1L << place;
            Check.found(x, 0, place, -3 * units, -3 * units);
            Check.found(x, 1, place, units / 2, place == 0 ? 1 : units / 2);
        }
    }

    /** "To CUT is to round down, to FILL is to round up, both also below 0." */
    private static void cutAndFill() {
        Nestlimit x = new Nestlimit();
        x.ratio(1, 1000);
        x.ratio(-1, 1000);
        x.ratio(999, 1000);
        x.ratio(-999, 1000);
        x.ratio(3, 2);
        x.ratio(-3, 2);
        Check.found(x, 0, 0, 0, 1);
        Check.found(x, 1, 0, -1, 0);
        Check.found(x, 2, 0, 0, 1);
        Check.found(x, 3, 0, -1, 0);
        Check.found(x, 4, 0, 1, 2);
        Check.found(x, 5, 0, -2, -1);
    }

    /** What is a whole number of units is neither cut nor filled. */
    private static void cutAndFillOnTheSpot() {
        Nestlimit x = new Nestlimit();
        x.ratio(-6, 3);
        x.ratio(6, 3);
        x.ratio(0, 1000);
        x.ratio(-1000, 1000);
        x.ratio(-3, 2);
        Check.found(x, 0, 0, -2, -2);
        Check.found(x, 1, 0, 2, 2);
        Check.found(x, 2, 0, 0, 0);
        Check.found(x, 3, 0, -1, -1);
        Check.found(x, 4, 1, -3, -3);
    }

    /** "RATIO: its numerator times N, by its denominator: LOW is that, CUT, HIGH that, FILLED." */
    private static void ratio() {
        Nestlimit x = four();
        at(x, 0, 3, 4, 205970, 205971, 411940, 411941, 52728393, 52728394);
        at(x, 1, -4, -3, -205971, -205970, -411941, -411940, -52728394, -52728393);
        at(x, 2, 0, 1, 40960, 40960, 81920, 81920, 10485760, 10485760);
        at(x, 3, -1, 0, -40960, -40960, -81920, -81920, -10485760, -10485760);
        // 5/8 is a whole number of units from the place 3 on.
        Check.found(x, 2, 2, 2, 3);
        Check.found(x, 2, 3, 5, 5);
        Check.found(x, 3, 2, -3, -2);
        Check.found(x, 3, 3, -5, -5);
    }

    /** "SUM: both LOW ENDS, together, to both HIGH ENDS, together." */
    private static void sum() {
        Nestlimit x = four();
        at(x, x.sum(0, 1), -1, 1, -1, 1, -1, 1, -1, 1);
        at(x, x.sum(0, 0), 6, 8, 411940, 411942, 823880, 823882, 105456786, 105456788);
        at(x, x.sum(1, 3), -5, -3, -246931, -246930, -493861, -493860, -63214154, -63214153);
    }

    /** "DIFFERENCE: the LOW END of the first less the HIGH END of the second", and the other way round. */
    private static void difference() {
        Nestlimit x = four();
        at(x, x.difference(0, 1), 6, 8, 411940, 411942, 823880, 823882, 105456786, 105456788);
        at(x, x.difference(1, 0), -8, -6, -411942, -411940, -823882, -823880, -105456788, -105456786);
        at(x, x.difference(0, 0), -1, 1, -1, 1, -1, 1, -1, 1);
        at(x, x.difference(2, 2), -1, 1, 0, 0, 0, 0, 0, 0);
    }

    /** "PRODUCT: .. the least one by N, CUT, to the greatest one by N, FILLED." */
    private static void product() {
        Nestlimit x = four();
        at(x, x.product(0, 1), -16, -9, -647340, -647333, -1294674, -1294666, -165717813, -165717806);
        at(x, x.product(1, 1), 9, 16, 647333, 647340, 1294666, 1294674, 165717806, 165717813);
        at(x, x.product(0, 2), 0, 4, 128731, 128732, 257462, 257464, 32955245, 32955247);
        at(x, x.product(0, 3), -4, 0, -128732, -128731, -257464, -257462, -32955247, -32955245);
        // 5/8 times 5/8 is 25/64, a whole number of units from the place 6 on.
        int square = x.product(2, 2);
        int below = x.product(2, 3);
        Check.found(x, square, 5, 12, 13);
        Check.found(x, square, 6, 25, 25);
        Check.found(x, below, 5, -13, -12);
        Check.found(x, below, 6, -25, -25);
    }

    /** "of the four products of an END of the first and an END of the second": any of them may be the least or the greatest. */
    private static void productOfSigns() {
        Nestlimit x = new Nestlimit();
        x.ratio(5, 2);
        x.ratio(-5, 2);
        x.ratio(1, 2);
        int around = x.sum(x.ratio(-5, 2), 2);
        int more = x.difference(x.ratio(7, 2), 2);
        // At the place 0 these are [2, 3], [-3, -2], [0, 1], [-3, -1] and [2, 4].
        int mixed = x.sum(around, more);
        Check.found(x, around, 0, -3, -1);
        Check.found(x, more, 0, 2, 4);
        Check.found(x, mixed, 0, -1, 3);
        int other = x.difference(1, around);
        Check.found(x, other, 0, -2, 1);
        Check.found(x, x.product(0, more), 0, 4, 12);
        Check.found(x, x.product(0, around), 0, -9, -2);
        Check.found(x, x.product(around, 0), 0, -9, -2);
        Check.found(x, x.product(1, around), 0, 2, 9);
        Check.found(x, x.product(mixed, 0), 0, -3, 9);
        Check.found(x, x.product(1, mixed), 0, -9, 3);
        Check.found(x, x.product(mixed, other), 0, -6, 3);
        Check.found(x, x.product(other, mixed), 0, -6, 3);
        Check.found(x, x.product(other, other), 0, -2, 4);
        Check.found(x, x.product(mixed, mixed), 0, -3, 9);
        Check.found(x, x.product(other, around), 0, -3, 6);
        Check.found(x, x.product(2, mixed), 0, -1, 3);
    }

    /** "GREATER: the greater one of both LOW ENDS, to the greater one of both HIGH ENDS." */
    private static void greater() {
        Nestlimit x = four();
        at(x, x.greater(0, 1), 3, 4, 205970, 205971, 411940, 411941, 52728393, 52728394);
        at(x, x.greater(1, 3), -1, 0, -40960, -40960, -81920, -81920, -10485760, -10485760);
        at(x, x.greater(3, 1), -1, 0, -40960, -40960, -81920, -81920, -10485760, -10485760);
        at(x, x.greater(2, 2), 0, 1, 40960, 40960, 81920, 81920, 10485760, 10485760);
        // [-2, 2] and [-1, 1] by one end each with [0, 0] and [1, 1].
        Nestlimit y = Stock.made();
        int wide = y.sum(Stock.AROUND, Stock.AROUND);
        for (int place : Stock.PLACES) {
            Check.found(y, Stock.AROUND, place, -1, 1);
        }
        at(y, y.greater(wide, Stock.AROUND), -1, 2, -1, 2, -1, 2, -1, 2);
        at(y, y.greater(Stock.AROUND, wide), -1, 2, -1, 2, -1, 2, -1, 2);
        at(y, y.greater(Stock.NIL, Stock.AROUND), 0, 1, 0, 1, 0, 1, 0, 1);
        at(y, y.greater(Stock.TINY, Stock.NIL), 0, 1, 0, 1, 0, 1, 0, 1);
    }

    /** "INVERSE: .. N times N by the HIGH END, CUT, to N times N by the LOW END, FILLED." */
    private static void inverse() {
        Nestlimit x = four();
        at(x, x.inverse(0), 0, 1, 20852, 20853, 41704, 41705, 5338205, 5338206);
        at(x, x.inverse(1), -1, 0, -20853, -20852, -41705, -41704, -5338206, -5338205);
        int wide = x.sum(0, 0);
        at(x, x.inverse(wide), 0, 1, 10426, 10427, 20852, 20853, 2669102, 2669103);
        int exact = x.inverse(x.ratio(8, 1));
        at(x, exact, 0, 1, 8192, 8192, 16384, 16384, 2097152, 2097152);
        int below = x.inverse(x.ratio(-8, 1));
        at(x, below, -1, 0, -8192, -8192, -16384, -16384, -2097152, -2097152);
        Check.found(x, exact, 2, 0, 1);
        Check.found(x, exact, 3, 1, 1);
        Check.found(x, below, 2, -1, 0);
        Check.found(x, below, 3, -1, -1);
    }

    /** "ROOT: .. the root of the LOW END times N, CUT, to the root of the HIGH END times N, FILLED." */
    private static void root() {
        Nestlimit x = four();
        at(x, x.root(0), 1, 2, 116182, 116184, 232365, 232366, 29742824, 29742826);
        at(x, x.root(2), 0, 1, 51810, 51811, 103621, 103622, 13263553, 13263554);
        at(x, x.root(x.ratio(64, 1)), 8, 8, 524288, 524288, 1048576, 1048576, 134217728, 134217728);
        at(x, x.root(x.ratio(9, 4)), 1, 2, 98304, 98304, 196608, 196608, 25165824, 25165824);
        at(x, x.root(x.ratio(1, 1)), 1, 1, 65536, 65536, 131072, 131072, 16777216, 16777216);
        at(x, x.root(x.ratio(2, 1)), 1, 2, 92681, 92682, 185363, 185364, 23726566, 23726567);
    }

    /** "of the program or of 0, whichever is greater: ENDS below 0 count as 0". */
    private static void rootOfBelowZero() {
        Nestlimit x = Stock.made();
        int tinyBelow = x.difference(Stock.NIL, Stock.TINY);
        at(x, x.root(Stock.NIL), 0, 0, 0, 0, 0, 0, 0, 0);
        at(x, x.root(Stock.AROUND), 0, 1, 0, 256, 0, 363, 0, 4096);
        at(x, x.root(Stock.TINY), 0, 1, 0, 256, 0, 363, 0, 4096);
        at(x, x.root(tinyBelow), 0, 0, 0, 0, 0, 0, 0, 0);
        at(x, x.root(x.ratio(-5, 1)), 0, 0, 0, 0, 0, 0, 0, 0);
        at(x, x.root(x.ratio(-22, 7)), 0, 0, 0, 0, 0, 0, 0, 0);
        at(x, x.root(x.ratio(-64, 1)), 0, 0, 0, 0, 0, 0, 0, 0);
    }

    /** The low end is cut just below a square, the high end is filled just above it. */
    private static void rootJustBesideASquare() {
        Nestlimit x = Stock.made();
        int four = x.ratio(4, 1);
        int above = x.sum(four, Stock.TINY);
        int below = x.difference(four, Stock.TINY);
        at(x, above, 4, 5, 262144, 262145, 524288, 524289, 67108864, 67108865);
        at(x, x.root(above), 2, 3, 131072, 131073, 262144, 262145, 33554432, 33554433);
        at(x, below, 3, 4, 262143, 262144, 524287, 524288, 67108863, 67108864);
        at(x, x.root(below), 1, 2, 131071, 131072, 262143, 262144, 33554431, 33554432);
        int nearly64 = x.difference(x.ratio(64, 1), Stock.TINY);
        at(x, x.root(nearly64), 7, 8, 524287, 524288, 1048575, 1048576, 134217727, 134217728);
    }

    /** "EXP: .. behind that its LOW END is 1 less, its HIGH END 1 more", also of 0, which is exact. */
    private static void exp() {
        Nestlimit x = Stock.made();
        at(x, x.exp(Stock.NIL), 0, 2, 65535, 65537, 131071, 131073, 16777215, 16777217);
        at(x, x.exp(Stock.ONE), 1, 4, 178144, 178147, 356289, 356292, 45605200, 45605203);
        at(x, x.exp(x.ratio(-1, 1)), -1, 2, 24108, 24111, 48217, 48220, 6171991, 6171994);
        at(x, x.exp(x.ratio(5, 8)), 0, 4, 122435, 122439, 244873, 244877, 31343964, 31343968);
        at(x, x.exp(x.ratio(-5, 8)), -1, 2, 35077, 35081, 70156, 70160, 8980195, 8980199);
        at(x, x.exp(Stock.AROUND), -2, 4, 65533, 65539, 131069, 131075, 16777213, 16777219);
    }

    /** "from the INTERVAL of N and N on, for k from 12 down to 1", at every place. */
    private static void expOfEveryPlace() {
        Nestlimit x = new Nestlimit();
        x.ratio(8, 9);
        x.exp(0);
        for (int place = 0; place <= 24; place++) {
            Check.found(x, 1, place, EXP_OF_8_BY_9[2 * place], EXP_OF_8_BY_9[2 * place + 1]);
        }
        // Of 8/9 eleven steps would find another interval, of 83/99 thirteen.
        Check.found(x, x.exp(x.ratio(83, 99)), 24, 38799428, 38799434);
    }

    /** "At a PLACE above 16: what it FINDS at 16, each END times 2 as often as the PLACE is higher." */
    private static void zeroFrom16On() {
        Nestlimit x = new Nestlimit();
        x.zero(-2, 0, 1, 0, 1, 0);
        x.zero(-2, 0, 1, 0, -2, 0);
        x.zero(-9, 0, 0, 1, -1, 2);
        x.zero(9, -9, -9, -9, 0, 1);
        at(x, 0, 1, 2, 92681, 92682, 185362, 185364, 23726336, 23726592);
        at(x, 1, -2, -1, -92682, -92681, -185364, -185362, -23726592, -23726336);
        at(x, 2, 2, 3, 136320, 136321, 272640, 272642, 34897920, 34898176);
        at(x, 3, 0, 1, 35631, 35632, 71262, 71264, 9121536, 9121792);
        Check.found(x, 0, 15, 46340, 46341);
        for (int place = 16; place <= 24; place++) {
            Check.found(x, 0, place, 92681L << place - 16, 92682L << place - 16);
            Check.found(x, 1, place, -92682L << place - 16, -92681L << place - 16);
        }
    }

    /** "if the polynomial is 0 there, both ENDS are that", at the first place at which it is a middle, and behind it. */
    private static void zeroOnTheSpot() {
        Nestlimit x = new Nestlimit();
        x.zero(-1, 8, 0, 0, 0, 0);
        x.zero(1, 8, 0, 0, -1, 0);
        x.zero(-1, 1, 0, 0, 0, 1);
        x.zero(1, 1, 0, 0, -4, 2);
        at(x, 0, 0, 1, 8192, 8192, 16384, 16384, 2097152, 2097152);
        at(x, 1, -1, 0, -8192, -8192, -16384, -16384, -2097152, -2097152);
        at(x, 2, 1, 1, 65536, 65536, 131072, 131072, 16777216, 16777216);
        at(x, 3, -1, -1, -65536, -65536, -131072, -131072, -16777216, -16777216);
        Check.found(x, 0, 2, 0, 1);
        Check.found(x, 0, 3, 1, 1);
        Check.found(x, 1, 2, -1, 0);
        Check.found(x, 1, 3, -1, -1);
    }

    /** "as long as the ENDS are more than 1 apart": 1, 2 and 4 at the place 0. */
    private static void zeroFirstStep() {
        Nestlimit x = new Nestlimit();
        x.zero(-2, 0, 1, 0, 1, 0);
        x.zero(-2, 0, 1, 0, 0, 1);
        x.zero(-2, 0, 1, 0, 1, 1);
        x.zero(-2, 0, 1, 0, 0, 2);
        x.zero(-2, 0, 1, 0, -1, 2);
        for (int program = 0; program < 5; program++) {
            Check.found(x, program, 0, 1, 2);
            Check.found(x, program, 1, 2, 3);
            Check.found(x, program, 16, 92681, 92682);
        }
    }

    /** "if it has its sign of the LOW END there, the LOW END is that; otherwise the HIGH END is that", rising and falling. */
    private static void zeroBySign() {
        Nestlimit x = new Nestlimit();
        x.zero(-1, 3, 0, 0, 0, 0);
        x.zero(1, -3, 0, 0, 0, 0);
        x.zero(-2, 3, 0, 0, 0, 0);
        x.zero(2, -3, 0, 0, 0, 0);
        for (int program = 0; program < 2; program++) {
            at(x, program, 0, 1, 21845, 21846, 43690, 43692, 5592320, 5592576);
            at(x, 2 + program, 0, 1, 43690, 43691, 87380, 87382, 11184640, 11184896);
            Check.found(x, program, 1, 0, 1);
            Check.found(x, 2 + program, 1, 1, 2);
        }
    }

    /** "the middle of both" chooses among three zeros from -2 to 2: the one on the spot, the lowest, the highest. */
    private static void zeroOfThree() {
        Nestlimit x = new Nestlimit();
        x.zero(0, -1, 0, 1, -2, 2);
        x.zero(1, -3, 0, 1, -2, 2);
        x.zero(-1, 3, 0, -1, -2, 2);
        x.zero(-1, -3, 0, 1, -2, 2);
        x.zero(1, 3, 0, -1, -2, 2);
        at(x, 0, 0, 0, 0, 0, 0, 0, 0, 0);
        for (int either = 1; either <= 2; either++) {
            at(x, either, -2, -1, -123168, -123167, -246336, -246334, -31531008, -31530752);
            at(x, 2 + either, 1, 2, 123167, 123168, 246334, 246336, 31530752, 31531008);
        }
    }
}
