/**
 * Each range of each argument, in the order of the promises: what is just beyond it on either side is
 * refused, and the first and the last value within it are answered.
 */
public final class EdgeRangesTest {
    public static void main(String[] args) {
        numerators();
        denominators();
        factorsOfZero();
        fromOfZero();
        halvesOfZero();
        partsOfTwo();
        partsOfOne();
        programsOfIntervals();
        programsOfOthers();
        places();
        placesOfInstead();
        fines();
        placesOfNotations();
        decimalNumbers();
        quotientNumbers();
        Check.end("EdgeRangesTest");
    }

    /** 39 programs, from 0 to 38 as numbers too. */
    private static Nestlimit wholes() {
        Nestlimit x = new Nestlimit();
        for (int number = 0; number < 39; number++) {
            x.ratio(number, 1);
        }
        return x;
    }

    // ---- promise 2: ratio

    /** "numerator: -1000 to 1000". */
    private static void numerators() {
        Nestlimit x = new Nestlimit();
        Check.thrown("ratio(-1001, 1000)", Check.ARGUMENT, () -> x.ratio(-1001, 1000));
        Check.due("ratio(-1000, 1000)", 0, () -> x.ratio(-1000, 1000));
        Check.found(x, 0, 24, -16777216, -16777216);
        Check.due("ratio(1000, 16)", 1, () -> x.ratio(1000, 16));
        Check.found(x, 1, 17, 8192000, 8192000);
        Check.thrown("ratio(1001, 16)", Check.ARGUMENT, () -> x.ratio(1001, 16));
        Check.due("ratio(-1000, 16)", 2, () -> x.ratio(-1000, 16));
        Check.found(x, 2, 0, -63, -62);
    }

    /** "denominator: 1 to 1000". */
    private static void denominators() {
        Nestlimit x = new Nestlimit();
        Check.thrown("ratio(1, 0)", Check.ARGUMENT, () -> x.ratio(1, 0));
        Check.due("ratio(1, 1)", 0, () -> x.ratio(1, 1));
        Check.found(x, 0, 24, 16777216, 16777216);
        Check.due("ratio(-1, 1000)", 1, () -> x.ratio(-1, 1000));
        Check.found(x, 1, 24, -16778, -16777);
        Check.thrown("ratio(-1, 1001)", Check.ARGUMENT, () -> x.ratio(-1, 1001));
        Check.due("ratio(999, 1000)", 2, () -> x.ratio(999, 1000));
        Check.found(x, 2, 16, 65470, 65471);
    }

    // ---- promise 10: zero

    /** "a: -9 to 9", and b, c and d likewise, each by itself at both ends. */
    private static void factorsOfZero() {
        Nestlimit x = new Nestlimit();
        Check.thrown("a -10", Check.ARGUMENT, () -> x.zero(-10, 4, 0, 0, 2, 0));
        Check.due("a -9", 0, () -> x.zero(-9, 4, 0, 0, 2, 0));
        Check.due("a 9", 1, () -> x.zero(9, -4, 0, 0, 2, 0));
        Check.thrown("a 10", Check.ARGUMENT, () -> x.zero(10, -4, 0, 0, 2, 0));
        Check.thrown("b -10", Check.ARGUMENT, () -> x.zero(1, -10, 0, 0, 0, 0));
        Check.due("b -9", 2, () -> x.zero(1, -9, 0, 0, 0, 0));
        Check.due("b 9", 3, () -> x.zero(-1, 9, 0, 0, 0, 0));
        Check.thrown("b 10", Check.ARGUMENT, () -> x.zero(-1, 10, 0, 0, 0, 0));
        Check.thrown("c -10", Check.ARGUMENT, () -> x.zero(1, 0, -10, 0, 0, 0));
        Check.due("c -9", 4, () -> x.zero(1, 0, -9, 0, 0, 0));
        Check.due("c 9", 5, () -> x.zero(-1, 0, 9, 0, 0, 0));
        Check.thrown("c 10", Check.ARGUMENT, () -> x.zero(-1, 0, 10, 0, 0, 0));
        Check.thrown("d -10", Check.ARGUMENT, () -> x.zero(1, 0, 0, -10, 0, 0));
        Check.due("d -9", 6, () -> x.zero(1, 0, 0, -9, 0, 0));
        Check.due("d 9", 7, () -> x.zero(-1, 0, 0, 9, 0, 0));
        Check.thrown("d 10", Check.ARGUMENT, () -> x.zero(-1, 0, 0, 10, 0, 0));
        for (int pair = 0; pair < 2; pair++) {
            Check.found(x, pair, 16, 147456, 147456);
            Check.found(x, 2 + pair, 16, 7281, 7282);
            Check.found(x, 4 + pair, 16, 21845, 21846);
            Check.found(x, 6 + pair, 16, 31506, 31507);
        }
        Check.due("all at -9, but a", 8, () -> x.zero(9, -9, -9, -9, 0, 1));
        Check.due("all at 9, but a", 9, () -> x.zero(-9, 9, 9, 9, 0, 1));
        Check.due("all at -9", 10, () -> x.zero(-9, -9, -9, -9, -2, 1));
        Check.due("all at 9", 11, () -> x.zero(9, 9, 9, 9, -2, 1));
        for (int pair = 0; pair < 2; pair++) {
            Check.found(x, 8 + pair, 24, 9121536, 9121792);
            Check.found(x, 10 + pair, 24, -16777216, -16777216);
        }
    }

    /** "from: -4 to 3". */
    private static void fromOfZero() {
        Nestlimit x = new Nestlimit();
        Check.thrown("from -5", Check.ARGUMENT, () -> x.zero(9, 2, 0, 0, -5, 0));
        Check.due("from -4", 0, () -> x.zero(7, 2, 0, 0, -4, 0));
        Check.found(x, 0, 17, -458752, -458752);
        Check.due("from 3", 1, () -> x.zero(-7, 2, 0, 0, 3, 0));
        Check.found(x, 1, 17, 458752, 458752);
        Check.thrown("from 4", Check.ARGUMENT, () -> x.zero(-9, 2, 0, 0, 4, 0));
    }

    /** "halves: 0 to 2: it is looked for from that one to 1, 2 or 4 more". */
    private static void halvesOfZero() {
        Nestlimit x = new Nestlimit();
        // 3/2 lies before 2, 5/2 before 3, 7/2 and 9/2 before 5, and 6 behind all of these.
        Check.thrown("halves -1", Check.ARGUMENT, () -> x.zero(-3, 2, 0, 0, 1, -1));
        Check.due("halves 0", 0, () -> x.zero(-3, 2, 0, 0, 1, 0));
        Check.thrown("halves 0, no farther than 2", Check.STATE, () -> x.zero(-5, 2, 0, 0, 1, 0));
        Check.due("halves 1", 1, () -> x.zero(-5, 2, 0, 0, 1, 1));
        Check.thrown("halves 1, no farther than 3", Check.STATE, () -> x.zero(-7, 2, 0, 0, 1, 1));
        Check.due("halves 2", 2, () -> x.zero(-9, 2, 0, 0, 1, 2));
        Check.thrown("halves 2, no farther than 5", Check.STATE, () -> x.zero(-6, 1, 0, 0, 1, 2));
        Check.thrown("halves 3", Check.ARGUMENT, () -> x.zero(-9, 2, 0, 0, 1, 3));
        Check.found(x, 0, 1, 3, 3);
        Check.found(x, 1, 1, 5, 5);
        Check.found(x, 2, 1, 9, 9);
        Check.due("from 3 to 7", 3, () -> x.zero(-9, -9, -9, 2, 3, 2));
        Check.found(x, 3, 24, 91813888, 91814144);
    }

    // ---- promises 3 to 9: programs of which others are made

    private static void partsOfTwo() {
        Nestlimit x = wholes();
        Check.thrown("sum(-1, 0)", Check.INDEX, () -> x.sum(-1, 0));
        Check.thrown("sum(0, -1)", Check.INDEX, () -> x.sum(0, -1));
        Check.thrown("sum(39, 0)", Check.INDEX, () -> x.sum(39, 0));
        Check.thrown("sum(0, 39), its own number", Check.INDEX, () -> x.sum(0, 39));
        Check.due("sum(0, 38)", 39, () -> x.sum(0, 38));
        Check.found(x, 39, 0, 38, 38);
        Nestlimit y = wholes();
        Check.thrown("difference(-1, 0)", Check.INDEX, () -> y.difference(-1, 0));
        Check.thrown("difference(0, -1)", Check.INDEX, () -> y.difference(0, -1));
        Check.thrown("difference(39, 0)", Check.INDEX, () -> y.difference(39, 0));
        Check.thrown("difference(0, 39), its own number", Check.INDEX, () -> y.difference(0, 39));
        Check.due("difference(0, 38)", 39, () -> y.difference(0, 38));
        Check.found(y, 39, 0, -38, -38);
        Nestlimit z = wholes();
        Check.thrown("product(-1, 0)", Check.INDEX, () -> z.product(-1, 0));
        Check.thrown("product(0, -1)", Check.INDEX, () -> z.product(0, -1));
        Check.thrown("product(39, 0)", Check.INDEX, () -> z.product(39, 0));
        Check.thrown("product(0, 39), its own number", Check.INDEX, () -> z.product(0, 39));
        Check.due("product(38, 0)", 39, () -> z.product(38, 0));
        Check.found(z, 39, 0, 0, 0);
        Nestlimit w = wholes();
        Check.thrown("greater(-1, 0)", Check.INDEX, () -> w.greater(-1, 0));
        Check.thrown("greater(0, -1)", Check.INDEX, () -> w.greater(0, -1));
        Check.thrown("greater(39, 0)", Check.INDEX, () -> w.greater(39, 0));
        Check.thrown("greater(0, 39), its own number", Check.INDEX, () -> w.greater(0, 39));
        Check.due("greater(0, 38)", 39, () -> w.greater(0, 38));
        Check.found(w, 39, 0, 38, 38);
    }

    private static void partsOfOne() {
        Nestlimit x = wholes();
        Check.thrown("inverse(-1)", Check.INDEX, () -> x.inverse(-1));
        Check.thrown("inverse(39), its own number", Check.INDEX, () -> x.inverse(39));
        Check.due("inverse(38)", 39, () -> x.inverse(38));
        Check.found(x, 39, 24, 441505, 441506);
        Nestlimit y = wholes();
        Check.thrown("root(-1)", Check.INDEX, () -> y.root(-1));
        Check.thrown("root(39), its own number", Check.INDEX, () -> y.root(39));
        Check.due("root(38)", 39, () -> y.root(38));
        Check.found(y, 39, 0, 6, 7);
        Nestlimit z = wholes();
        Check.thrown("exp(-1)", Check.INDEX, () -> z.exp(-1));
        Check.thrown("exp(39), its own number", Check.INDEX, () -> z.exp(39));
        Check.due("exp(0)", 39, () -> z.exp(0));
        Check.found(z, 39, 0, 0, 2);
        Nestlimit one = new Nestlimit();
        Check.thrown("inverse(0), its own number", Check.INDEX, () -> one.inverse(0));
        Check.thrown("root(0), its own number", Check.INDEX, () -> one.root(0));
        Check.thrown("exp(0), its own number", Check.INDEX, () -> one.exp(0));
        Check.due("the first", 0, () -> one.ratio(1, 1));
        Check.due("inverse(0)", 1, () -> one.inverse(0));
        Check.due("root(1)", 2, () -> one.root(1));
        Check.due("exp(2)", 3, () -> one.exp(2));
    }

    // ---- promises 11 to 25: programs that are asked

    private static void programsOfIntervals() {
        Nestlimit x = wholes();
        x.ratio(39, 1);
        Check.found(x, 0, 0, 0, 0);
        Check.found(x, 39, 0, 39, 39);
        for (int no : new int[] {-1, 40}) {
            Check.thrown("raw of " + no, Check.INDEX, () -> x.raw(no, 0, true));
            Check.thrown("told of " + no, Check.INDEX, () -> x.told(no, 0, true));
            Check.thrown("instead of " + no, Check.INDEX, () -> x.instead(no, 39, 39, 0, true));
            Check.thrown("instead, gone " + no, Check.INDEX, () -> x.instead(39, no, 39, 0, true));
            Check.thrown("instead, other " + no, Check.INDEX, () -> x.instead(39, 39, no, 0, true));
            Check.thrown("place of " + no, Check.INDEX, () -> x.place(no, 0));
            Check.thrown("compare " + no, Check.INDEX, () -> x.compare(no, 39, 0));
            Check.thrown("compare with " + no, Check.INDEX, () -> x.compare(39, no, 0));
            Check.thrown("decided " + no, Check.INDEX, () -> x.decided(no, 39));
            Check.thrown("decided with " + no, Check.INDEX, () -> x.decided(39, no));
        }
        Check.due("instead of 39 by 0", 0, () -> x.instead(39, 39, 0, 0, true));
        Check.due("instead of 0 by 39", 39, () -> x.instead(0, 0, 39, 0, true));
        Check.due("instead of 0, 39 gone", 0, () -> x.instead(0, 39, 39, 0, true));
        Check.due("place(0, 0)", 0, () -> x.place(0, 0));
        Check.due("place(39, 0)", 0, () -> x.place(39, 0));
        Check.due("compare(0, 39, 0)", Nestlimit.LESS, () -> x.compare(0, 39, 0));
        Check.due("compare(39, 0, 0)", Nestlimit.MORE, () -> x.compare(39, 0, 0));
        Check.due("decided(0, 39)", 0, () -> x.decided(0, 39));
        Check.due("decided(39, 0)", 0, () -> x.decided(39, 0));
    }

    private static void programsOfOthers() {
        Nestlimit x = wholes();
        x.ratio(1, 2);
        for (int no : new int[] {-1, 40}) {
            Check.thrown("decimals of " + no, Check.INDEX, () -> x.decimals(no, 0));
            Check.thrown("decimal of " + no, Check.INDEX, () -> x.decimal(no, 0, 0));
            Check.thrown("quotient of " + no, Check.INDEX, () -> x.quotient(no, 0, 0));
            Check.thrown("next of " + no, Check.INDEX, () -> x.next(no));
            Check.thrown("emitted of " + no, Check.INDEX, () -> x.emitted(no));
            Check.thrown("partial of " + no, Check.INDEX, () -> x.partial(no));
            Check.thrown("restart of " + no, Check.INDEX, () -> x.restart(no));
            Check.thrown("needs of " + no, Check.INDEX, () -> x.needs(no));
        }
        Check.due("decimals(0, 0)", 7, () -> x.decimals(0, 0));
        Check.due("decimals(39, 1)", 7, () -> x.decimals(39, 1));
        Check.due("decimal(0, 0, 0)", 0, () -> x.decimal(0, 0, 0));
        Check.due("decimal(39, 1, 1)", 5, () -> x.decimal(39, 1, 1));
        Check.due("quotient(0, 0, 0)", 0, () -> x.quotient(0, 0, 0));
        Check.due("quotient(39, 1, 1)", 2, () -> x.quotient(39, 1, 1));
        Check.due("next(0)", 0, () -> x.next(0));
        Check.due("next(39)", 0, () -> x.next(39));
        Check.due("next(39) once more", 1, () -> x.next(39));
        Check.due("emitted(0)", 1, () -> x.emitted(0));
        Check.due("emitted(39)", 2, () -> x.emitted(39));
        Check.due("partial(0)", 0, () -> x.partial(0));
        Check.due("partial(39)", 1, () -> x.partial(39));
        Check.due("restart(0)", 1, () -> x.restart(0));
        Check.due("restart(39)", 2, () -> x.restart(39));
        Check.due("needs(0)", 1, () -> x.needs(0));
        Check.due("needs(39)", 1, () -> x.needs(39));
    }

    // ---- promises 11 to 15: "place: 0 to 24"

    private static void places() {
        Nestlimit x = Stock.made();
        Check.thrown("raw at -1", Check.ARGUMENT, () -> x.raw(Stock.ONE, -1, false));
        Check.due("raw at 0", 1, () -> x.raw(Stock.ONE, 0, false));
        Check.due("raw at 24", 16777216, () -> x.raw(Stock.ONE, 24, false));
        Check.thrown("raw at 25", Check.ARGUMENT, () -> x.raw(Stock.ONE, 25, false));
        Check.thrown("told at -1", Check.ARGUMENT, () -> x.told(Stock.ONE, -1, true));
        Check.due("told at 0", 1, () -> x.told(Stock.ONE, 0, true));
        Check.due("told at 24", 16777216, () -> x.told(Stock.ONE, 24, true));
        Check.thrown("told at 25", Check.ARGUMENT, () -> x.told(Stock.ONE, 25, true));
        Check.thrown("compare at -1", Check.ARGUMENT, () -> x.compare(Stock.NIL, Stock.ONE, -1));
        Check.due("compare at 0", Nestlimit.LESS, () -> x.compare(Stock.NIL, Stock.ONE, 0));
        Check.due("compare at 24", Nestlimit.LESS, () -> x.compare(Stock.NIL, Stock.ONE, 24));
        Check.thrown("compare at 25", Check.ARGUMENT, () -> x.compare(Stock.NIL, Stock.ONE, 25));
    }

    private static void placesOfInstead() {
        Nestlimit x = Stock.made();
        x.sum(Stock.THIRD, Stock.ONE);
        Check.thrown("instead at -1", Check.ARGUMENT, () -> x.instead(8, Stock.THIRD, Stock.ONE, -1, true));
        Check.due("instead at 0", 2, () -> x.instead(8, Stock.THIRD, Stock.ONE, 0, true));
        Check.due("instead at 24", 33554432, () -> x.instead(8, Stock.THIRD, Stock.ONE, 24, true));
        Check.thrown("instead at 25", Check.ARGUMENT, () -> x.instead(8, Stock.THIRD, Stock.ONE, 25, true));
    }

    /** "fine: 0 to 24". */
    private static void fines() {
        Nestlimit x = Stock.made();
        Check.thrown("place, fine -1", Check.ARGUMENT, () -> x.place(Stock.THIRD, -1));
        Check.due("place, fine 0", 0, () -> x.place(Stock.THIRD, 0));
        Check.due("place, fine 24", 24, () -> x.place(Stock.THIRD, 24));
        Check.thrown("place, fine 25", Check.ARGUMENT, () -> x.place(Stock.THIRD, 25));
    }

    // ---- promises 17 to 19

    private static void placesOfNotations() {
        Nestlimit x = Stock.made();
        Check.thrown("decimals at -1", Check.ARGUMENT, () -> x.decimals(Stock.THIRD, -1));
        Check.due("decimals at 0", -1, () -> x.decimals(Stock.THIRD, 0));
        Check.due("decimals at 24", 7, () -> x.decimals(Stock.THIRD, 24));
        Check.thrown("decimals at 25", Check.ARGUMENT, () -> x.decimals(Stock.THIRD, 25));
        Check.thrown("decimal at -1", Check.ARGUMENT, () -> x.decimal(Stock.ONE, -1, 0));
        Check.due("decimal at 0", 1, () -> x.decimal(Stock.ONE, 0, 0));
        Check.due("decimal at 24", 1, () -> x.decimal(Stock.ONE, 24, 0));
        Check.thrown("decimal at 25", Check.ARGUMENT, () -> x.decimal(Stock.ONE, 25, 0));
        Check.thrown("quotient at -1", Check.ARGUMENT, () -> x.quotient(Stock.ONE, -1, 0));
        Check.due("quotient at 0", 1, () -> x.quotient(Stock.ONE, 0, 0));
        Check.due("quotient at 24", 1, () -> x.quotient(Stock.ONE, 24, 0));
        Check.thrown("quotient at 25", Check.ARGUMENT, () -> x.quotient(Stock.ONE, 25, 0));
    }

    /** "decimal: 0 to 7". */
    private static void decimalNumbers() {
        Nestlimit x = new Nestlimit();
        // 43/128 is 0.3359375.
        x.ratio(43, 128);
        Check.thrown("decimal -1", Check.ARGUMENT, () -> x.decimal(0, 7, -1));
        Check.due("decimal 0", 0, () -> x.decimal(0, 7, 0));
        Check.due("decimal 7", 5, () -> x.decimal(0, 7, 7));
        Check.thrown("decimal 8", Check.ARGUMENT, () -> x.decimal(0, 7, 8));
    }

    /** "number: 0 to 24: which one". */
    private static void quotientNumbers() {
        Nestlimit x = new Nestlimit();
        int program = Stock.addExact(x, 0x116C09);
        Check.thrown("quotient -1", Check.ARGUMENT, () -> x.quotient(program, 24, -1));
        Check.due("quotient 0", 0, () -> x.quotient(program, 24, 0));
        Check.due("quotient 23", 7, () -> x.quotient(program, 24, 23));
        Check.due("quotient 24", 2, () -> x.quotient(program, 24, 24));
        Check.thrown("quotient 25", Check.ARGUMENT, () -> x.quotient(program, 24, 25));
    }
}
