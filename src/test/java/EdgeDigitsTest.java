import java.util.Arrays;

/** The Terms' section Digits, with promises 20 (next), 21 (emitted), 22 (partial) and 23 (restart). */
public final class EdgeDigitsTest {
    private static final int DIGITS = 24;

    public static void main(String[] args) {
        noneAtFirst();
        sumSoFar();
        atMost24();
        atMost24Below0();
        firstDigitAt1();
        firstDigitBeyond1();
        zeroUpToTheHalf();
        zeroDownToTheHalf();
        oneFromZeroOn();
        minusOneUpToZero();
        noneIsSureThere();
        firstPlaceOfAll();
        placesBeyond1AreSkipped();
        placesOfNoneAreSkipped();
        lastPlaceOfAll();
        noneSureBehindThat();
        ofNone();
        digitsOfOtherKinds();
        neverFarOff();
        restart();
        restartOfNone();
        eachProgramByItself();
        refusedNextChangesNothing();
        Check.end("EdgeDigitsTest");
    }

    /** The digits, each of them followed by how many there are and by their sum. */
    private static void digits(Nestlimit x, int program, int... due) {
        long sum = x.partial(program);
        int before = x.emitted(program);
        for (int at = 0; at < due.length; at++) {
            Check.due("next(" + program + "), the digit " + (before + at), due[at], () -> x.next(program));
            sum = 2 * sum + due[at];
        }
        state(x, program, before + due.length, sum);
    }

    /** The first ones, and then the same one up to so many. */
    private static void digitsUpTo(Nestlimit x, int program, int count, int last, int... first) {
        digits(x, program, first);
        int[] more = new int[count - first.length];
        Arrays.fill(more, last);
        digits(x, program, more);
    }

    private static void state(Nestlimit x, int program, long emitted, long partial) {
        Check.due("emitted(" + program + ")", emitted, () -> x.emitted(program));
        Check.due("partial(" + program + ")", partial, () -> x.partial(program));
    }

    private static void noMore(Nestlimit x, int program) {
        int emitted = x.emitted(program);
        long partial = x.partial(program);
        Check.thrown("next(" + program + ") behind " + emitted, Check.STATE, () -> x.next(program));
        state(x, program, emitted, partial);
    }

    // ---- "so far it has emitted k, at most 24, none at first, with the SUM so far S, 0 at first"

    private static void noneAtFirst() {
        Nestlimit x = Stock.made();
        for (int program = 0; program < Stock.COUNT; program++) {
            state(x, program, 0, 0);
        }
        x.next(Stock.ONE);
        int later = x.sum(Stock.ONE, Stock.NIL);
        state(x, later, 0, 0);
        state(x, Stock.ONE, 1, 1);
    }

    /** "behind each digit S is 2 times S, and that". */
    private static void sumSoFar() {
        Nestlimit x = new Nestlimit();
        x.ratio(5, 8);
        x.ratio(-5, 8);
        int[] due = {1, 0, 0, 1, 1, 1};
        long[] sums = {1, 2, 4, 9, 19, 39};
        for (int at = 0; at < due.length; at++) {
            digits(x, 0, due[at]);
            digits(x, 1, -due[at]);
            state(x, 0, at + 1, sums[at]);
            state(x, 1, at + 1, -sums[at]);
        }
        int exp = x.exp(x.ratio(-1, 1));
        digits(x, exp, 1, -1, 1, 0, 0, 0, -1, 0, 0, 1, -1, 1, 0, -1, 1, -1, 1, -1, 1, 0, -1, 0, 0);
        state(x, exp, 23, 3085996);
        noMore(x, exp);
    }

    private static void atMost24() {
        Nestlimit x = Stock.made();
        digitsUpTo(x, Stock.ONE, 23, 1);
        state(x, Stock.ONE, 23, 8388607);
        digits(x, Stock.ONE, 1);
        state(x, Stock.ONE, 24, 16777215);
        noMore(x, Stock.ONE);
        noMore(x, Stock.ONE);
        digitsUpTo(x, Stock.NIL, DIGITS, 0);
        noMore(x, Stock.NIL);
    }

    private static void atMost24Below0() {
        Nestlimit x = new Nestlimit();
        x.ratio(-1, 1);
        digitsUpTo(x, 0, 23, -1);
        state(x, 0, 23, -8388607);
        digits(x, 0, -1);
        state(x, 0, 24, -16777215);
        noMore(x, 0);
    }

    // ---- "if k is 0, and L is below -U or H above U, none is SURE there"

    /** 1 and -1 themselves are not beyond, nor what is up to 1 unit within. */
    private static void firstDigitAt1() {
        Nestlimit x = Stock.made();
        int below = x.ratio(-1, 1);
        digitsUpTo(x, Stock.ONE, DIGITS, 1);
        digitsUpTo(x, below, DIGITS, -1);
        digitsUpTo(x, x.difference(Stock.ONE, Stock.TINY), DIGITS, 1);
        digitsUpTo(x, x.sum(below, Stock.TINY), DIGITS, -1);
    }

    /** One END is 1 unit beyond at every place, the other one is 1 itself or 1 unit within; then both are. */
    private static void firstDigitBeyond1() {
        Nestlimit x = Stock.made();
        int below = x.ratio(-1, 1);
        noMore(x, x.sum(Stock.ONE, Stock.TINY));
        noMore(x, x.sum(Stock.ONE, Stock.AROUND));
        noMore(x, x.difference(below, Stock.TINY));
        noMore(x, x.sum(below, Stock.AROUND));
        noMore(x, x.ratio(1000, 999));
        noMore(x, x.ratio(-1000, 999));
        noMore(x, x.ratio(3, 2));
        noMore(x, x.ratio(-3, 2));
        noMore(x, x.ratio(64, 1));
        noMore(x, x.ratio(-64, 1));
    }

    // ---- "otherwise 0, if 2 times L is -U or more, and 2 times H is U or less"

    /** 1/2 itself, what is up to 1 unit less, and what is up to 1 unit more. */
    private static void zeroUpToTheHalf() {
        Nestlimit x = Stock.made();
        int half = x.ratio(1, 2);
        digitsUpTo(x, half, DIGITS, 1, 0);
        digitsUpTo(x, x.difference(half, Stock.TINY), DIGITS, 1, 0);
        digitsUpTo(x, x.sum(half, Stock.TINY), DIGITS, 0, 1);
        digitsUpTo(x, x.ratio(1, 4), DIGITS, 1, 0, 0);
    }

    private static void zeroDownToTheHalf() {
        Nestlimit x = Stock.made();
        int half = x.ratio(-1, 2);
        digitsUpTo(x, half, DIGITS, -1, 0);
        digitsUpTo(x, x.sum(half, Stock.TINY), DIGITS, -1, 0);
        digitsUpTo(x, x.difference(half, Stock.TINY), DIGITS, 0, -1);
        digitsUpTo(x, x.ratio(-1, 4), DIGITS, -1, 0, 0);
    }

    // ---- "otherwise 1, if L is 0 or more; otherwise -1, if H is 0 or less; otherwise none is SURE there"

    /** 0 to 2 units, at the place 1 more than the half: L is 0 itself. Behind that, S being 1, H is 0 itself. */
    private static void oneFromZeroOn() {
        Nestlimit x = Stock.made();
        int two = x.sum(Stock.TINY, Stock.TINY);
        digitsUpTo(x, two, DIGITS, -1, 1);
        state(x, two, 24, 1);
    }

    private static void minusOneUpToZero() {
        Nestlimit x = Stock.made();
        int two = x.difference(Stock.NIL, x.sum(Stock.TINY, Stock.TINY));
        digitsUpTo(x, two, DIGITS, 1, -1);
        state(x, two, 24, -1);
    }

    /** -1 to 2 units, and -2 to 1: on either side of 0, and on one side more than the half at each first place. */
    private static void noneIsSureThere() {
        Nestlimit x = Stock.made();
        int more = x.sum(Stock.AROUND, Stock.TINY);
        int less = x.difference(Stock.AROUND, Stock.TINY);
        int both = x.sum(Stock.AROUND, Stock.AROUND);
        for (int program = more; program <= both; program++) {
            digitsUpTo(x, program, 23, 0);
            noMore(x, program);
        }
    }

    // ---- "The next digit is looked for at the PLACES from k and 1 to 24"

    /** 0 to 2 units: 1 at the place 1, but 0 at the place 2. 1/3: 1 at the place 0, but 0 at the place 1. */
    private static void firstPlaceOfAll() {
        Nestlimit x = Stock.made();
        digits(x, x.sum(Stock.TINY, Stock.TINY), 1);
        digits(x, Stock.THIRD, 0, 1, 0, 1, 0, 1, 0, 1, 0, 1, 0, 1, 0, 1, 0, 1, 0, 1, 0, 1, 0, 1, 0, 1);
        state(x, Stock.THIRD, 24, 5592405);
        digits(x, x.ratio(-1, 3), 0, -1, 0, -1, 0, -1, 0, -1, 0, -1, 0, -1, 0, -1, 0, -1, 0, -1, 0, -1, 0, -1, 0, -1);
    }

    /** "the first one at which .. one is SURE": 14/15 and -14/15 may be beyond 1 up to the place 2. */
    private static void placesBeyond1AreSkipped() {
        Nestlimit x = new Nestlimit();
        int most = x.sum(x.ratio(1, 3), x.ratio(3, 5));
        int least = x.sum(x.ratio(-1, 3), x.ratio(-3, 5));
        Check.told(x, most, 2, 3, 5);
        Check.told(x, least, 2, -5, -3);
        digits(x, most, 1, 1, 1, 1);
        digits(x, least, -1, -1, -1, -1);
    }

    /** "at which something is TOLD": these are told from 16, 17, 20 and 24 on. */
    private static void placesOfNoneAreSkipped() {
        int[][] due = {
            {0, 0, 0, 0, 0, 1, 0, 0, 0, 0, 0, 0, 0, 0, 1, -1, 0, 1, 0, 1, 0, 0},
            {0, 0, 0, 0, 0, 1, 0, 0, 0, 0, 0, 0, 0, 0, 0, 1, -1, 0, 1, 0, 1, 0},
            {0, 0, 0, 0, 0, 1, 0, 0, 0, 0, 0, 0, 0, 0, 0, 0, 0, 0, 1, -1, 0, 0, 0},
            {0, 0, 0, 0, 0, 1, 0, 0, 0, 0, 0, 0, 0, 0, 0, 0, 0, 0, 0, 0, 0, 0, 1},
        };
        int[] first = {16, 17, 20, 24};
        for (int at = 0; at < first.length; at++) {
            Nestlimit x = Stock.made();
            int late = Stock.addLate(x, first[at]);
            noMore(x, late - 1);
            digits(x, late, due[at]);
            noMore(x, late);
        }
    }

    /** "to 24": the last digit of -1 to 1 unit is sure there, and nowhere else. */
    private static void lastPlaceOfAll() {
        Nestlimit x = Stock.made();
        digitsUpTo(x, Stock.AROUND, 23, 0);
        digits(x, Stock.AROUND, 0);
        noMore(x, Stock.AROUND);
        int twoThirds = x.sum(Stock.THIRD, Stock.THIRD);
        for (int digit = 0; digit < 23; digit++) {
            x.next(twoThirds);
        }
        state(x, twoThirds, 23, 5592405);
        digits(x, twoThirds, 1);
        state(x, twoThirds, 24, 11184811);
        noMore(x, twoThirds);
    }

    /** A zero gets no finer behind the place 16. */
    private static void noneSureBehindThat() {
        Nestlimit x = Stock.made();
        int zero = x.difference(x.zero(-2, 0, 1, 0, 1, 0), Stock.ONE);
        digits(x, zero, 0, 1, 1, 0, 1, 0, 1, 0, 0, 0, 0, 0, 1, 0, 0, 1, 1);
        state(x, zero, 17, 54291);
        noMore(x, zero);
        int exact = x.zero(-1, 8, 0, 0, 0, 0);
        digitsUpTo(x, exact, DIGITS, 1, 0, 0, 0);
    }

    /** "or none is SURE at any of the PLACES": as nothing is told. */
    private static void ofNone() {
        Nestlimit x = Stock.made();
        noMore(x, Stock.NOTHING);
        noMore(x, x.inverse(Stock.NIL));
        noMore(x, x.exp(x.ratio(2, 1)));
    }

    private static void digitsOfOtherKinds() {
        Nestlimit x = Stock.made();
        int root = x.root(x.ratio(1, 2));
        digits(x, root, 1, 0, 1, 1, 0, 1, 0, 1, 0, 0, 0, 0, 0, 1, 0, 0, 1, 1, 1, 1, 0, 0, 1, 1);
        state(x, root, 24, 11863283);
        digitsUpTo(x, x.difference(x.exp(Stock.NIL), Stock.ONE), DIGITS, 0);
        digits(x, x.ratio(999, 1000), 1, 1, 1, 1, 1, 1, 1, 1, 1, 0, 1, 1, 1, 1, 1, 0, 0, 1, 1, 1, 0, 1, 1, 0);
        digits(x, x.ratio(-2, 3), -1, 0, -1, 0, -1, 0, -1, 0, -1, 0, -1, 0, -1, 0, -1, 0, -1, 0, -1, 0, -1, 0, -1, 0);
    }

    /** "never taken back": the number times 2 to the power of k is within 1 of S, behind each digit. */
    private static void neverFarOff() {
        Nestlimit x = new Nestlimit();
        int[][] ratios = {{1, 7}, {-1, 7}, {5, 9}, {-8, 9}, {499, 1000}, {501, 1000}, {-999, 1000}, {1, 1000}};
        for (int[] of : ratios) {
            int program = x.ratio(of[0], of[1]);
            for (int k = 1; k <= 24; k++) {
                x.next(program);
                long off = (1L << k) * of[0] - x.partial(program) * of[1];
                Check.same("the digits of " + of[0] + "/" + of[1] + " up to " + k + " are within 1", "true",
                        "" + (Math.abs(off) <= of[1]));
            }
        }
    }

    // ---- promise 23: restart

    /** "it has emitted none then": behind none, some and 24, and the digits come again. */
    private static void restart() {
        Nestlimit x = Stock.made();
        Check.due("restart of none", 0, () -> x.restart(Stock.THIRD));
        state(x, Stock.THIRD, 0, 0);
        digits(x, Stock.THIRD, 0, 1, 0);
        Check.due("restart of 3", 3, () -> x.restart(Stock.THIRD));
        state(x, Stock.THIRD, 0, 0);
        digits(x, Stock.THIRD, 0, 1, 0, 1);
        digitsUpTo(x, Stock.ONE, DIGITS, 1);
        noMore(x, Stock.ONE);
        Check.due("restart of 24", 24, () -> x.restart(Stock.ONE));
        Check.due("restart of none once more", 0, () -> x.restart(Stock.ONE));
        state(x, Stock.ONE, 0, 0);
        digitsUpTo(x, Stock.ONE, DIGITS, 1);
        state(x, Stock.ONE, 24, 16777215);
        state(x, Stock.THIRD, 4, 5);
    }

    private static void restartOfNone() {
        Nestlimit x = Stock.made();
        noMore(x, Stock.NOTHING);
        Check.due("restart of one that finds none", 0, () -> x.restart(Stock.NOTHING));
        noMore(x, Stock.NOTHING);
        int beyond = x.ratio(3, 2);
        noMore(x, beyond);
        Check.due("restart of one beyond 1", 0, () -> x.restart(beyond));
    }

    /** "Each program emits digits": the first and the last of 40, those it is made of and those made of it. */
    private static void eachProgramByItself() {
        Nestlimit x = new Nestlimit();
        x.ratio(1, 1);
        for (int number = 1; number < 40; number++) {
            x.product(number - 1, 0);
        }
        digits(x, 0, 1, 1);
        digits(x, 39, 1, 1, 1);
        digits(x, 38, 1);
        for (int number = 1; number < 38; number++) {
            state(x, number, 0, 0);
        }
        state(x, 0, 2, 3);
        state(x, 39, 3, 7);
        Check.due("restart(39)", 3, () -> x.restart(39));
        state(x, 0, 2, 3);
        state(x, 38, 1, 1);
        state(x, 39, 0, 0);
    }

    /** "A call that throws an exception changes nothing": what is sure of others still comes. */
    private static void refusedNextChangesNothing() {
        Nestlimit x = Stock.made();
        int three = x.sum(Stock.AROUND, Stock.TINY);
        digitsUpTo(x, three, 23, 0);
        for (int again = 0; again < 3; again++) {
            noMore(x, three);
        }
        Check.due("restart behind the refused ones", 23, () -> x.restart(three));
        digits(x, three, 0, 0);
        digits(x, Stock.THIRD, 0, 1);
    }
}
