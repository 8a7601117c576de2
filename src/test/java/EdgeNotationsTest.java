/** The Terms' section Notations, with promises 17 (decimals), 18 (decimal) and 19 (quotient). */
public final class EdgeNotationsTest {
    public static void main(String[] args) {
        wholePart();
        wholePartAtItsFarthest();
        remainders();
        remaindersBelow0();
        eachNumberOfDecimals();
        eachNumberOfDecimalsBelow0();
        lowEndOnTheDigit();
        highEndOnTheDigit();
        smallest();
        sameRemainderOfOtherNumbers();
        decimalsOfOtherKinds();
        decimalsOfNone();
        decimalsOfLate();
        wholeQuotient();
        nextQuotients();
        quotientsBelow0();
        lowEndLeavesNothing();
        highEndLeavesNothing();
        bothLeaveNothing();
        unlikeAhead();
        lastQuotient();
        greatestQuotient();
        quotientsOfOtherKinds();
        quotientsOfNone();
        Check.end("EdgeNotationsTest");
    }

    /** The decimals are these; each later one up to 7 is not sure. */
    private static void decimals(Nestlimit x, int program, int place, int... due) {
        String of = "(" + program + ", " + place;
        Check.due("decimals" + of + ")", due.length - 1, () -> x.decimals(program, place));
        for (int decimal = 0; decimal <= 7; decimal++) {
            int number = decimal;
            if (decimal < due.length) {
                Check.due("decimal" + of + ", " + number + ")", due[number], () -> x.decimal(program, place, number));
            } else {
                Check.thrown("decimal" + of + ", " + number + ")", Check.STATE, () -> x.decimal(program, place, number));
            }
        }
    }

    /** The quotients are these; each later one up to 24 is not sure. */
    private static void quotients(Nestlimit x, int program, int place, int... due) {
        String of = "(" + program + ", " + place;
        for (int quotient = 0; quotient <= 24; quotient++) {
            int number = quotient;
            if (quotient < due.length) {
                Check.due("quotient" + of + ", " + number + ")", due[number], () -> x.quotient(program, place, number));
            } else {
                Check.thrown("quotient" + of + ", " + number + ")", Check.STATE, () -> x.quotient(program, place, number));
            }
        }
    }

    // ---- decimals

    /** "the decimal 0 is the number, CUT to a whole one", and so below 0 the next lower one. */
    private static void wholePart() {
        Nestlimit x = new Nestlimit();
        x.ratio(7, 4);
        x.ratio(-7, 4);
        x.ratio(-1, 4);
        x.ratio(-2, 1);
        x.ratio(3, 4);
        decimals(x, 0, 2, 1, 7, 5, 0, 0, 0, 0, 0);
        decimals(x, 1, 2, -2, 2, 5, 0, 0, 0, 0, 0);
        decimals(x, 2, 2, -1, 7, 5, 0, 0, 0, 0, 0);
        decimals(x, 3, 0, -2, 0, 0, 0, 0, 0, 0, 0);
        decimals(x, 4, 24, 0, 7, 5, 0, 0, 0, 0, 0);
    }

    private static void wholePartAtItsFarthest() {
        Nestlimit x = Stock.made();
        int most = x.ratio(64, 1);
        int least = x.ratio(-64, 1);
        for (int place : Stock.PLACES) {
            decimals(x, most, place, 64, 0, 0, 0, 0, 0, 0, 0);
            decimals(x, least, place, -64, 0, 0, 0, 0, 0, 0, 0);
        }
        decimals(x, x.ratio(959, 15), 24, 63, 9, 3, 3, 3, 3, 3);
        decimals(x, x.ratio(-959, 15), 24, -64, 0, 6, 6, 6, 6, 6);
        decimals(x, x.difference(most, Stock.TINY), 24);
        decimals(x, x.sum(least, Stock.TINY), 24, -64, 0, 0, 0, 0, 0, 0, 0);
    }

    /** "the decimal n, 1 to 7, is the remainder by 10 of the number times 10 to the power of n, CUT". */
    private static void remainders() {
        Nestlimit x = new Nestlimit();
        x.ratio(43, 128);
        x.ratio(22, 7);
        decimals(x, 0, 7, 0, 3, 3, 5, 9, 3, 7, 5);
        decimals(x, 0, 24, 0, 3, 3, 5, 9, 3, 7, 5);
        decimals(x, 1, 24, 3, 1, 4, 2, 8, 5, 7, 1);
    }

    /** "(0 to 9, also below 0)". */
    private static void remaindersBelow0() {
        Nestlimit x = new Nestlimit();
        x.ratio(-43, 128);
        x.ratio(-22, 7);
        x.ratio(-1, 2);
        decimals(x, 0, 7, -1, 6, 6, 4, 0, 6, 2, 5);
        decimals(x, 1, 24, -4, 8, 5, 7, 1, 4, 2, 8);
        decimals(x, 2, 1, -1, 5, 0, 0, 0, 0, 0, 0);
    }

    /** "the greatest decimal that is SURE": NONE, and each from 0 to 7, of 1/3 at the 25 places. */
    private static void eachNumberOfDecimals() {
        int[] due = {-1, 0, 0, 0, 1, 1, 1, 1, 2, 2, 3, 3, 3, 3, 4, 4, 4, 4, 5, 5, 6, 6, 6, 6, 7};
        Nestlimit x = Stock.made();
        for (int place = 0; place <= 24; place++) {
            int[] row = new int[due[place] + 1];
            for (int decimal = 1; decimal < row.length; decimal++) {
                row[decimal] = 3;
            }
            decimals(x, Stock.THIRD, place, row);
        }
    }

    private static void eachNumberOfDecimalsBelow0() {
        int[] due = {-1, -1, 0, 0, 1, 1, 1, 1, 2, 2, 3, 3, 3, 3, 4, 4, 4, 4, 5, 5, 6, 6, 6, 6, 7};
        Nestlimit x = new Nestlimit();
        x.ratio(-1, 3);
        for (int place = 0; place <= 24; place++) {
            int[] row = new int[due[place] + 1];
            for (int decimal = 0; decimal < row.length; decimal++) {
                row[decimal] = decimal == 0 ? -1 : 6;
            }
            decimals(x, 0, place, row);
        }
    }

    /** 1/2 or 1 and up to 1 unit more: the LOW END is where a digit begins, so it is sure. */
    private static void lowEndOnTheDigit() {
        Nestlimit x = Stock.made();
        int half = x.sum(x.ratio(1, 2), Stock.TINY);
        int one = x.sum(Stock.ONE, Stock.TINY);
        decimals(x, half, 24, 0, 5, 0, 0, 0, 0, 0, 0);
        decimals(x, half, 23, 0, 5, 0, 0, 0, 0, 0);
        decimals(x, half, 16, 0, 5, 0, 0, 0);
        decimals(x, half, 1);
        decimals(x, one, 24, 1, 0, 0, 0, 0, 0, 0, 0);
        decimals(x, one, 0);
    }

    /** 1/2 or 1 and up to 1 unit less: the HIGH END is where a digit begins, so the one before it is not sure. */
    private static void highEndOnTheDigit() {
        Nestlimit x = Stock.made();
        int half = x.difference(x.ratio(1, 2), Stock.TINY);
        int one = x.difference(Stock.ONE, Stock.TINY);
        int tinyBelow = x.difference(Stock.NIL, Stock.TINY);
        for (int place : new int[] {16, 17, 24}) {
            decimals(x, half, place, 0);
            decimals(x, one, place);
            decimals(x, tinyBelow, place);
        }
        decimals(x, tinyBelow, 0);
    }

    /** 0 to 1 unit: a unit of the place 24 is less than 10 to the power of -7, one of the place 23 is more. */
    private static void smallest() {
        Nestlimit x = Stock.made();
        decimals(x, Stock.TINY, 24, 0, 0, 0, 0, 0, 0, 0, 0);
        decimals(x, Stock.TINY, 23, 0, 0, 0, 0, 0, 0, 0);
        decimals(x, Stock.TINY, 17, 0, 0, 0, 0, 0, 0);
        decimals(x, Stock.TINY, 16, 0, 0, 0, 0, 0);
        decimals(x, Stock.TINY, 0);
        decimals(x, Stock.NIL, 0, 0, 0, 0, 0, 0, 0, 0, 0);
    }

    /** "the LOW and the HIGH END, times 10 to the power of m, CUT, are the same", not their remainders alone. */
    private static void sameRemainderOfOtherNumbers() {
        Nestlimit x = Stock.made();
        decimals(x, Stock.AROUND, 0);
        int wide = x.sum(Stock.AROUND, Stock.ONE);
        Check.found(x, wide, 0, 0, 2);
        decimals(x, wide, 0);
        int far = x.product(wide, x.ratio(5, 1));
        Check.found(x, far, 0, 0, 10);
        decimals(x, far, 0);
        decimals(x, Stock.AROUND, 24);
    }

    private static void decimalsOfOtherKinds() {
        Nestlimit x = Stock.made();
        int e = x.exp(Stock.ONE);
        decimals(x, e, 0);
        decimals(x, e, 16, 2, 7, 1, 8);
        decimals(x, e, 17, 2, 7, 1, 8, 2);
        decimals(x, e, 24, 2, 7, 1, 8, 2, 8, 1);
        int zero = x.zero(-2, 0, 1, 0, 1, 0);
        decimals(x, zero, 0);
        decimals(x, zero, 16, 1, 4, 1, 4);
        decimals(x, zero, 17, 1, 4, 1, 4);
        decimals(x, zero, 24, 1, 4, 1, 4);
    }

    /** "NONE if not even the decimal 0 is, or nothing is TOLD". */
    private static void decimalsOfNone() {
        Nestlimit x = Stock.made();
        int inverse = x.inverse(Stock.NIL);
        for (int place : Stock.PLACES) {
            decimals(x, Stock.NOTHING, place);
            decimals(x, inverse, place);
        }
    }

    private static void decimalsOfLate() {
        Nestlimit x = Stock.made();
        int three = x.inverse(Stock.THIRD);
        decimals(x, three, 1);
        decimals(x, three, 2);
        decimals(x, three, 24);
        int late = Stock.addLate(x, 24);
        decimals(x, late, 23);
        decimals(x, late, 24, 0, 0, 1, 5, 6, 2, 5);
        int late17 = Stock.addLate(x, 17);
        decimals(x, late17, 16);
        decimals(x, late17, 17, 0, 0, 1, 5, 6);
    }

    // ---- quotients

    /** "the quotient 0 is the number, CUT". */
    private static void wholeQuotient() {
        Nestlimit x = new Nestlimit();
        x.ratio(7, 4);
        x.ratio(64, 1);
        x.ratio(0, 1);
        x.ratio(1, 3);
        quotients(x, 0, 0);
        quotients(x, 0, 1);
        quotients(x, 0, 2, 1, 1, 3);
        for (int place : Stock.PLACES) {
            quotients(x, 1, place, 64);
            quotients(x, 2, place, 0);
        }
        quotients(x, 3, 0);
    }

    /** "each next one is the same of 1 by what was left of it, the number less what was CUT". */
    private static void nextQuotients() {
        Nestlimit x = new Nestlimit();
        x.ratio(3, 8);
        x.ratio(43, 128);
        x.root(x.ratio(3, 1));
        quotients(x, 0, 3, 0, 2, 1, 2);
        quotients(x, 1, 7, 0, 2, 1, 42);
        quotients(x, 3, 0);
        quotients(x, 3, 1);
        quotients(x, 3, 2, 1);
        quotients(x, 3, 16, 1, 1, 2, 1, 2, 1, 2, 1, 2);
        quotients(x, 3, 17, 1, 1, 2, 1, 2, 1, 2, 1, 2, 1);
        quotients(x, 3, 24, 1, 1, 2, 1, 2, 1, 2, 1, 2, 1, 2, 1, 2, 1);
    }

    /** Only the quotient 0 may be below 0: what is left is never below 0. */
    private static void quotientsBelow0() {
        Nestlimit x = new Nestlimit();
        x.ratio(-5, 4);
        x.ratio(-64, 1);
        x.ratio(-22, 7);
        x.ratio(-1, 2);
        x.ratio(-1, 1);
        quotients(x, 0, 1);
        quotients(x, 0, 2, -2, 1, 3);
        quotients(x, 1, 24, -64);
        quotients(x, 2, 0);
        quotients(x, 2, 16, -4, 1);
        quotients(x, 2, 24, -4, 1);
        quotients(x, 3, 1, -1, 2);
        quotients(x, 3, 0);
        quotients(x, 4, 0, -1);
    }

    /** "nothing was left as 0 of either one ahead of it": of the LOW END, behind the quotients 0 and 2. */
    private static void lowEndLeavesNothing() {
        Nestlimit x = Stock.made();
        int more = x.ratio(5, 4);
        Check.told(x, more, 1, 2, 3);
        quotients(x, more, 1, 1);
        int later = x.ratio(751, 1000);
        Check.told(x, later, 8, 192, 193);
        quotients(x, later, 8, 0, 1, 3);
        quotients(x, Stock.TINY, 24, 0);
        quotients(x, x.sum(Stock.ONE, Stock.TINY), 24, 1);
    }

    /** Of the HIGH END, behind the quotient 1. */
    private static void highEndLeavesNothing() {
        Nestlimit x = Stock.made();
        int less = x.ratio(7, 16);
        Check.told(x, less, 3, 3, 4);
        quotients(x, less, 3, 0, 2);
        quotients(x, x.difference(x.ratio(1, 2), Stock.TINY), 24, 0, 2);
        quotients(x, x.difference(x.ratio(-1, 2), Stock.TINY), 24, -1, 2);
    }

    /** Of both, at once: the one ahead is sure, and none is behind it. */
    private static void bothLeaveNothing() {
        Nestlimit x = Stock.made();
        quotients(x, Stock.NIL, 0, 0);
        quotients(x, Stock.ONE, 24, 1);
        quotients(x, x.ratio(1, 2), 1, 0, 2);
        quotients(x, x.ratio(3, 4), 2, 0, 1, 3);
    }

    /** "if it and all ahead of it are the same": one that is the same behind one that is not is not sure. */
    private static void unlikeAhead() {
        Nestlimit x = new Nestlimit();
        // 6/16 is 0, 2, 1, 2 and 7/16 is 0, 2, 3, 2; 9/16 is 0, 1, 1, 3, 2 and 10/16 is 0, 1, 1, 1, 2.
        x.ratio(2, 5);
        x.ratio(3, 5);
        // 18/64 is 0, 3, 1, 1, 4 and 19/64 is 0, 3, 2, 1, 2, 2.
        x.ratio(2, 7);
        quotients(x, 0, 4, 0, 2);
        quotients(x, 1, 4, 0, 1, 1);
        quotients(x, 2, 6, 0, 3);
    }

    /** "number: 0 to 24": 24, 25 and 30 quotients. */
    private static void lastQuotient() {
        Nestlimit x = new Nestlimit();
        int just24 = Stock.addExact(x, 0x04C607);
        int just25 = Stock.addExact(x, 0x116C09);
        int more = Stock.addExact(x, 0x9DFDFF);
        Check.found(x, just25, 24, 0x116C09, 0x116C09);
        quotients(x, just24, 24, 0, 53, 1, 1, 1, 2, 3, 1, 1, 1, 1, 1, 1, 4, 1, 1, 1, 1, 1, 1, 1, 1, 1, 2);
        quotients(x, just25, 24, 0, 14, 1, 2, 3, 1, 2, 1, 1, 1, 1, 1, 1, 1, 1, 1, 1, 1, 1, 1, 1, 1, 1, 7, 2);
        quotients(x, more, 24, 0, 1, 1, 1, 1, 1, 1, 2, 1, 2, 1, 1, 1, 1, 2, 3, 1, 1, 1, 1, 1, 1, 2, 1, 1);
        Check.thrown("quotient 25", Check.ARGUMENT, () -> x.quotient(more, 24, 25));
    }

    /** The greatest ones that there are: of 1 unit, and of 1 less 1 unit, at the place 24. */
    private static void greatestQuotient() {
        Nestlimit x = Stock.made();
        quotients(x, Stock.addExact(x, 1), 24, 0, 16777216);
        quotients(x, Stock.addExact(x, 2), 24, 0, 8388608);
        quotients(x, Stock.addExact(x, 3), 24, 0, 5592405, 3);
        quotients(x, Stock.addExact(x, 0xFFFFFF), 24, 0, 1, 16777215);
    }

    private static void quotientsOfOtherKinds() {
        Nestlimit x = Stock.made();
        int e = x.exp(Stock.ONE);
        quotients(x, e, 0);
        quotients(x, e, 16, 2, 1, 2, 1, 1, 4, 1, 1);
        quotients(x, e, 17, 2, 1, 2, 1, 1, 4, 1, 1);
        quotients(x, e, 24, 2, 1, 2, 1, 1, 4, 1, 1, 6, 1, 1);
        int zero = x.zero(-2, 0, 1, 0, 1, 0);
        quotients(x, zero, 0);
        quotients(x, zero, 16, 1, 2, 2, 2, 2, 2);
        quotients(x, zero, 17, 1, 2, 2, 2, 2, 2);
        quotients(x, zero, 24, 1, 2, 2, 2, 2, 2);
    }

    /** "if it is not SURE, or nothing is TOLD". */
    private static void quotientsOfNone() {
        Nestlimit x = Stock.made();
        int late = Stock.addLate(x, 17);
        for (int place : Stock.PLACES) {
            quotients(x, Stock.NOTHING, place);
        }
        quotients(x, late, 0);
        quotients(x, late, 16);
        quotients(x, late, 17, 0);
        quotients(x, late, 24, 0, 63, 1, 23);
        quotients(x, Stock.AROUND, 24);
    }
}
