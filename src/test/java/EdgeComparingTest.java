/** Promise 14 (place), the Terms' section Comparing and promises 15 (compare) and 16 (decided). */
public final class EdgeComparingTest {
    private static final int NONE = Nestlimit.NONE;
    private static final int LESS = Nestlimit.LESS;
    private static final int WAITS = Nestlimit.WAITS;
    private static final int MORE = Nestlimit.MORE;

    public static void main(String[] args) {
        constants();
        placeOfExact();
        placeOfOneUnit();
        placeOfJustAsWide();
        placeOfJustTooWide();
        placeOfZero();
        placeOfNone();
        placeOfLate();
        lessByOneUnit();
        waitsIfTheyTouch();
        waitsIfOneHoldsTheOther();
        waitsForItself();
        waitsIfNothingIsTold();
        waitsUntilItIsTold();
        farthest();
        decidedAtEachEnd();
        decidedOnceForAll();
        decidedNever();
        Check.end("EdgeComparingTest");
    }

    /** "NONE = -1", "LESS = -1, WAITS = 0, MORE = 1". */
    private static void constants() {
        Check.due("NONE", -1, () -> Nestlimit.NONE);
        Check.due("LESS", -1, () -> Nestlimit.LESS);
        Check.due("WAITS", 0, () -> Nestlimit.WAITS);
        Check.due("MORE", 1, () -> Nestlimit.MORE);
    }

    // ---- promise 14: place

    private static void places(Nestlimit x, int program, int... due) {
        for (int fine = 0; fine < due.length; fine++) {
            int so = fine;
            Check.due("place(" + program + ", " + so + ")", due[so], () -> x.place(program, so));
        }
    }

    /** "the PLACE is at least fine", also if both ENDS are the same at each lower one. */
    private static void placeOfExact() {
        Nestlimit x = Stock.made();
        for (int fine = 0; fine <= 24; fine++) {
            int so = fine;
            Check.due("place of 1, fine " + so, so, () -> x.place(Stock.ONE, so));
            Check.due("place of 0, fine " + so, so, () -> x.place(Stock.NIL, so));
        }
    }

    /** "HIGH less LOW is at most 2 to the power of (the PLACE less fine)": 1, just where the PLACE is fine. */
    private static void placeOfOneUnit() {
        Nestlimit x = Stock.made();
        for (int fine = 0; fine <= 24; fine++) {
            int so = fine;
            Check.due("place of 1/3, fine " + so, so, () -> x.place(Stock.THIRD, so));
            Check.due("place of 0 to 1 unit, fine " + so, so, () -> x.place(Stock.TINY, so));
        }
    }

    /** 2 units are just as wide as it may be one place on, 4 units two places on; "NONE" behind the last place. */
    private static void placeOfJustAsWide() {
        Nestlimit x = Stock.made();
        int four = x.sum(Stock.AROUND, Stock.AROUND);
        for (int fine = 0; fine <= 24; fine++) {
            int so = fine;
            Check.due("place of 2 units, fine " + so, so <= 23 ? so + 1 : NONE, () -> x.place(Stock.AROUND, so));
            Check.due("place of 4 units, fine " + so, so <= 22 ? so + 2 : NONE, () -> x.place(four, so));
        }
    }

    /** 3 units are 1 more than it may be one place on, 5 units 1 more than two places on. */
    private static void placeOfJustTooWide() {
        Nestlimit x = Stock.made();
        int three = x.sum(Stock.AROUND, Stock.TINY);
        int five = x.sum(three, Stock.AROUND);
        for (int fine = 0; fine <= 24; fine++) {
            int so = fine;
            Check.due("place of 3 units, fine " + so, so <= 22 ? so + 2 : NONE, () -> x.place(three, so));
            Check.due("place of 5 units, fine " + so, so <= 21 ? so + 3 : NONE, () -> x.place(five, so));
        }
    }

    /** What is found at 16 gets no finer behind it, unless both ENDS are the same. */
    private static void placeOfZero() {
        Nestlimit x = new Nestlimit();
        int zero = x.zero(-2, 0, 1, 0, 1, 0);
        int exact = x.zero(-1, 2, 0, 0, 0, 0);
        places(x, zero, 0, 1, 2, 3, 4, 5, 6, 7, 8, 9, 10, 11, 12, 13, 14, 15, 16, NONE, NONE, NONE, NONE, NONE, NONE, NONE, NONE);
        for (int fine = 0; fine <= 24; fine++) {
            int so = fine;
            Check.due("place of the exact zero, fine " + so, so, () -> x.place(exact, so));
        }
    }

    /** "NONE", if nothing is told. */
    private static void placeOfNone() {
        Nestlimit x = Stock.made();
        for (int fine = 0; fine <= 24; fine++) {
            int so = fine;
            Check.due("place of none, fine " + so, NONE, () -> x.place(Stock.NOTHING, so));
        }
    }

    /** "the lowest PLACE at which what is TOLD ..": not below the one at which it is first told. */
    private static void placeOfLate() {
        Nestlimit x = Stock.made();
        int three = x.inverse(Stock.THIRD);
        places(x, three, 4, 5, 6, 7, 8, 9, 10, 11, 12, 13, 14, 15, 16, 17, 18, 19, 20, 21, 22, 23, 24, NONE, NONE, NONE, NONE);
        int at17 = Stock.addLate(x, 17);
        Check.due("place of the late one, fine 0", 17, () -> x.place(at17, 0));
        Check.due("place of the late one, fine 15", 17, () -> x.place(at17, 15));
        Check.due("place of the late one, fine 16", 18, () -> x.place(at17, 16));
        Check.due("place of the late one, fine 22", 24, () -> x.place(at17, 22));
        Check.due("place of the late one, fine 23", NONE, () -> x.place(at17, 23));
        int at24 = Stock.addLate(x, 24);
        Check.due("place of the last one, fine 0", 24, () -> x.place(at24, 0));
        Check.due("place of the last one, fine 22", 24, () -> x.place(at24, 22));
        Check.due("place of the last one, fine 23", NONE, () -> x.place(at24, 23));
    }

    // ---- comparing

    /** Both ways round. */
    private static void compare(Nestlimit x, int one, int other, int place, int due) {
        Check.due("compare(" + one + ", " + other + ", " + place + ")", due, () -> x.compare(one, other, place));
        Check.due("compare(" + other + ", " + one + ", " + place + ")", -due, () -> x.compare(other, one, place));
    }

    private static void decided(Nestlimit x, int one, int other, int due) {
        Check.due("decided(" + one + ", " + other + ")", due, () -> x.decided(one, other));
        Check.due("decided(" + other + ", " + one + ")", due, () -> x.decided(other, one));
    }

    /** "LESS, if the HIGH END that is TOLD of it is below the LOW END .. of the other one, which is MORE then". */
    private static void lessByOneUnit() {
        Nestlimit x = Stock.made();
        int bit = Stock.addExact(x, 1);
        int two = Stock.addExact(x, 2);
        compare(x, Stock.NIL, bit, 24, LESS);
        compare(x, Stock.TINY, two, 24, LESS);
        compare(x, bit, two, 24, LESS);
        compare(x, x.ratio(-1, 1), Stock.NIL, 0, LESS);
        compare(x, x.ratio(4, 3), x.ratio(10, 3), 0, LESS);
        compare(x, x.ratio(-10, 3), x.ratio(-4, 3), 0, LESS);
        int upTo1 = x.difference(Stock.ONE, Stock.TINY);
        int from2 = x.ratio(2, 1);
        for (int place : Stock.PLACES) {
            compare(x, upTo1, from2, place, LESS);
        }
        Check.due("LESS", LESS, () -> x.compare(Stock.NIL, bit, 24));
        Check.due("MORE", MORE, () -> x.compare(bit, Stock.NIL, 24));
    }

    /** "otherwise .. the answer WAITS": an END of both is the same, at 0, 16, 17 and 24. */
    private static void waitsIfTheyTouch() {
        Nestlimit x = Stock.made();
        int below = x.difference(Stock.NIL, Stock.TINY);
        int upTo1 = x.difference(Stock.ONE, Stock.TINY);
        int from1 = x.sum(Stock.ONE, Stock.TINY);
        int another0 = x.ratio(0, 7);
        for (int place : Stock.PLACES) {
            compare(x, below, Stock.TINY, place, WAITS);
            compare(x, below, Stock.NIL, place, WAITS);
            compare(x, Stock.NIL, Stock.TINY, place, WAITS);
            compare(x, upTo1, Stock.ONE, place, WAITS);
            compare(x, upTo1, from1, place, WAITS);
            compare(x, Stock.NIL, another0, place, WAITS);
        }
        compare(x, Stock.THIRD, Stock.ONE, 0, WAITS);
        compare(x, x.ratio(-1, 3), x.ratio(2, 7), 0, WAITS);
    }

    private static void waitsIfOneHoldsTheOther() {
        Nestlimit x = Stock.made();
        int wide = x.sum(Stock.AROUND, Stock.AROUND);
        for (int place : Stock.PLACES) {
            compare(x, wide, Stock.NIL, place, WAITS);
            compare(x, wide, Stock.AROUND, place, WAITS);
            compare(x, wide, Stock.TINY, place, WAITS);
        }
        compare(x, x.root(x.ratio(2, 1)), x.zero(-2, 0, 1, 0, 1, 0), 24, WAITS);
    }

    /** "other: another one, perhaps the same". */
    private static void waitsForItself() {
        Nestlimit x = Stock.made();
        for (int program = 0; program < Stock.COUNT; program++) {
            int same = program;
            for (int place : Stock.PLACES) {
                Check.due("compare with itself", WAITS, () -> x.compare(same, same, place));
            }
            Check.due("decided with itself", NONE, () -> x.decided(same, same));
        }
    }

    /** "or if nothing is TOLD of one, the answer WAITS": of either one, or of both. */
    private static void waitsIfNothingIsTold() {
        Nestlimit x = Stock.made();
        int none = x.inverse(Stock.NIL);
        for (int place : Stock.PLACES) {
            compare(x, Stock.NOTHING, Stock.NIL, place, WAITS);
            compare(x, Stock.NOTHING, Stock.ONE, place, WAITS);
            compare(x, Stock.NOTHING, none, place, WAITS);
            compare(x, none, x.ratio(-64, 1), place, WAITS);
        }
        decided(x, Stock.NOTHING, Stock.NIL, NONE);
        decided(x, Stock.NOTHING, none, NONE);
        decided(x, Stock.NOTHING, x.ratio(-64, 1), NONE);
    }

    private static void waitsUntilItIsTold() {
        for (int first : new int[] {16, 17, 20, 24}) {
            Nestlimit x = Stock.made();
            int late = Stock.addLate(x, first);
            compare(x, Stock.NIL, late, first - 1, WAITS);
            compare(x, Stock.NIL, late, first, LESS);
            compare(x, late, Stock.ONE, first - 1, WAITS);
            compare(x, late, Stock.ONE, first, LESS);
            compare(x, Stock.NIL, late, 24, LESS);
            decided(x, Stock.NIL, late, first);
            decided(x, Stock.ONE, late, first);
            decided(x, late - 1, late, first);
        }
    }

    /** -64 and 64, the farthest that are told. */
    private static void farthest() {
        Nestlimit x = Stock.made();
        int most = x.ratio(64, 1);
        int least = x.ratio(-64, 1);
        int within = x.difference(most, Stock.TINY);
        int another = x.ratio(128, 2);
        for (int place : Stock.PLACES) {
            compare(x, least, most, place, LESS);
            compare(x, within, most, place, WAITS);
            compare(x, another, most, place, WAITS);
        }
        decided(x, least, most, 0);
        decided(x, within, most, NONE);
    }

    // ---- promise 16: decided

    /** "the lowest PLACE at which comparing two programs does not WAIT": 0, 15 to 18, 24. */
    private static void decidedAtEachEnd() {
        Nestlimit x = new Nestlimit();
        int one = x.ratio(999, 1000);
        int[][] with = {{7, 3, 0}, {-1, 3, 1}, {910, 911, 15}, {966, 967, 16}, {980, 981, 17}, {987, 988, 18}};
        for (int[] other : with) {
            int number = x.ratio(other[0], other[1]);
            int due = other[2];
            decided(x, one, number, due);
            if (due > 0) {
                compare(x, one, number, due - 1, WAITS);
            }
            compare(x, one, number, due, due == 0 ? LESS : MORE);
        }
        int last = x.product(x.ratio(1, 999), x.ratio(15, 29));
        int next = x.product(x.ratio(1, 1000), x.ratio(518, 1000));
        decided(x, last, next, 24);
        compare(x, last, next, 23, WAITS);
        compare(x, last, next, 24, LESS);
    }

    /** Once it is decided, it is so at every later place, and the same way. */
    private static void decidedOnceForAll() {
        Nestlimit x = new Nestlimit();
        int less = x.ratio(1, 3);
        int more = x.ratio(1, 2);
        decided(x, less, more, 3);
        for (int place = 0; place <= 24; place++) {
            compare(x, less, more, place, place < 3 ? WAITS : LESS);
        }
    }

    /** "Returns the PLACE; NONE." */
    private static void decidedNever() {
        Nestlimit x = Stock.made();
        decided(x, Stock.NIL, Stock.TINY, NONE);
        decided(x, Stock.NIL, Stock.AROUND, NONE);
        decided(x, x.root(x.ratio(2, 1)), x.zero(-2, 0, 1, 0, 1, 0), NONE);
        decided(x, Stock.NIL, x.ratio(0, 1000), NONE);
        // 1/10000000 is [1, 2] at the place 24 and [0, 1] at 23.
        decided(x, Stock.NIL, x.product(Stock.MICRO, x.ratio(1, 10)), 24);
        decided(x, Stock.NIL, x.product(Stock.MICRO, x.ratio(1, 17)), NONE);
    }
}
