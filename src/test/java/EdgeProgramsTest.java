/** The Terms' section Programs, with promises 1 (a new object), 24 (count) and 25 (needs). */
public final class EdgeProgramsTest {
    private static final int KINDS = 9;

    public static void main(String[] args) {
        noPrograms();
        numberedFrom0();
        refusedCallsTakeNoNumber();
        atMost40();
        sameOneTwice();
        lowerNumbers();
        neverChange();
        objectsAreApart();
        needsOfOne();
        needsCountsEachOnce();
        needsOf40();
        last512thCall();
        Check.end("EdgeProgramsTest");
    }

    /** One more program of each kind in turn, of the given part. */
    private static int make(Nestlimit x, int kind, int part) {
        switch (kind) {
            case 0: return x.ratio(1, 3);
            case 1: return x.sum(part, part);
            case 2: return x.difference(part, part);
            case 3: return x.product(part, part);
            case 4: return x.greater(part, part);
            case 5: return x.inverse(part);
            case 6: return x.root(part);
            case 7: return x.exp(part);
            default: return x.zero(-2, 0, 1, 0, 1, 0);
        }
    }

    /** "No programs." */
    private static void noPrograms() {
        Nestlimit x = new Nestlimit();
        Check.due("new: count", 0, () -> x.count());
        Check.thrown("new: needs(0)", Check.INDEX, () -> x.needs(0));
        Check.thrown("new: raw(0, 0, false)", Check.INDEX, () -> x.raw(0, 0, false));
        Check.thrown("new: decided(0, 0)", Check.INDEX, () -> x.decided(0, 0));
        Check.thrown("new: next(0)", Check.INDEX, () -> x.next(0));
        Check.thrown("new: restart(0)", Check.INDEX, () -> x.restart(0));
        Check.due("new: still none", 0, () -> x.count());
    }

    /** "Programs are numbered from 0": whatever the first one is, and the others in turn. */
    private static void numberedFrom0() {
        Nestlimit x = new Nestlimit();
        Nestlimit y = new Nestlimit();
        Check.due("the first one, a ratio", 0, () -> x.ratio(1, 3));
        Check.due("the first one, a zero", 0, () -> y.zero(-2, 0, 1, 0, 1, 0));
        Check.due("count of one", 1, () -> x.count());
        Check.due("count of one, a zero", 1, () -> y.count());
        for (int number = 1; number < 40; number++) {
            int due = number;
            Check.due("the kind " + due % KINDS, due, () -> make(x, due % KINDS, 0));
            Check.due("count", due + 1, () -> x.count());
        }
    }

    /** A call that throws takes no number. */
    private static void refusedCallsTakeNoNumber() {
        Nestlimit x = new Nestlimit();
        Check.thrown("ratio(1, 0)", Check.ARGUMENT, () -> x.ratio(1, 0));
        Check.thrown("zero of like signs", Check.STATE, () -> x.zero(1, 0, 0, 0, 0, 0));
        Check.thrown("sum(0, 0)", Check.INDEX, () -> x.sum(0, 0));
        Check.due("count", 0, () -> x.count());
        Check.due("the first one", 0, () -> x.ratio(1, 1));
        Check.thrown("root(1)", Check.INDEX, () -> x.root(1));
        Check.thrown("ratio(1001, 1)", Check.ARGUMENT, () -> x.ratio(1001, 1));
        Check.due("count", 1, () -> x.count());
        Check.due("the second one", 1, () -> x.root(0));
    }

    /** "at most 40": the last one and the first beyond, of each kind. */
    private static void atMost40() {
        for (int kind = 0; kind < KINDS; kind++) {
            int last = kind;
            Nestlimit x = new Nestlimit();
            for (int number = 0; number < 39; number++) {
                x.ratio(number, 39);
            }
            Check.due("39: count", 39, () -> x.count());
            Check.due("the number 39, of the kind " + last, 39, () -> make(x, last, 38));
            Check.due("40: count", 40, () -> x.count());
            for (int more = 0; more < KINDS; more++) {
                int beyond = more;
                Check.thrown("the number 40, of the kind " + beyond, Check.STATE, () -> make(x, beyond, 38));
                Check.thrown("the number 40, of the last, kind " + beyond, Check.STATE, () -> make(x, beyond, 39));
            }
            Check.due("still 40: count", 40, () -> x.count());
            Check.found(x, 38, 24, 16347030, 16347031);
        }
    }

    /** "which may be the same one twice". */
    private static void sameOneTwice() {
        Nestlimit x = new Nestlimit();
        x.ratio(-7, 3);
        Check.due("sum(0, 0)", 1, () -> x.sum(0, 0));
        Check.due("difference(0, 0)", 2, () -> x.difference(0, 0));
        Check.due("product(0, 0)", 3, () -> x.product(0, 0));
        Check.due("greater(0, 0)", 4, () -> x.greater(0, 0));
        Check.found(x, 1, 2, -20, -18);
        Check.found(x, 2, 2, -1, 1);
        Check.found(x, 3, 2, 20, 25);
        Check.found(x, 4, 2, -10, -9);
    }

    /** "made of one or two programs with lower numbers": the next lower one and the lowest, not itself nor a later one. */
    private static void lowerNumbers() {
        Nestlimit x = new Nestlimit();
        x.ratio(1, 2);
        x.ratio(1, 4);
        Check.thrown("sum of itself", Check.INDEX, () -> x.sum(2, 0));
        Check.thrown("sum of itself, the other one", Check.INDEX, () -> x.sum(0, 2));
        Check.thrown("sum of a later one", Check.INDEX, () -> x.sum(0, 3));
        Check.due("sum(1, 0)", 2, () -> x.sum(1, 0));
        Check.thrown("root of itself", Check.INDEX, () -> x.root(3));
        Check.due("root of the next lower one", 3, () -> x.root(2));
        Check.due("sum of it and the lowest", 4, () -> x.sum(3, 0));
        Check.found(x, 2, 2, 3, 3);
        Check.found(x, 4, 2, 5, 6);
    }

    /** "They never change", whatever is made of them, asked of them or emitted. */
    private static void neverChange() {
        Nestlimit x = Stock.made();
        x.inverse(Stock.THIRD);
        String before = ends(x);
        x.ratio(-1, 2);
        x.sum(Stock.THIRD, 9);
        x.product(10, 10);
        x.next(Stock.THIRD);
        x.next(Stock.THIRD);
        x.next(Stock.ONE);
        x.instead(8, Stock.THIRD, Stock.ONE, 24, true);
        x.instead(Stock.THIRD, Stock.THIRD, Stock.NIL, 2, false);
        Check.outcome(() -> x.instead(8, Stock.THIRD, Stock.NOTHING, 24, true));
        x.restart(Stock.THIRD);
        x.compare(Stock.THIRD, Stock.ONE, 4);
        x.decimals(Stock.THIRD, 24);
        x.quotient(Stock.ONE, 24, 0);
        Check.same("the ends of the first nine", before, ends(x));
    }

    private static String ends(Nestlimit x) {
        StringBuilder all = new StringBuilder();
        for (int program = 0; program < 9; program++) {
            for (int place : new int[] {0, 2, 16, 17, 24}) {
                int number = program;
                all.append(Check.outcome(() -> x.raw(number, place, false))).append(' ');
                all.append(Check.outcome(() -> x.raw(number, place, true))).append(' ');
                all.append(Check.outcome(() -> x.told(number, place, false))).append(' ');
                all.append(Check.outcome(() -> x.told(number, place, true))).append(' ');
            }
        }
        return all.toString();
    }

    /** A new object has no programs, whatever others have. */
    private static void objectsAreApart() {
        Nestlimit x = Stock.made();
        x.next(Stock.ONE);
        Nestlimit y = new Nestlimit();
        Check.due("count", 0, () -> y.count());
        Check.thrown("emitted(1)", Check.INDEX, () -> y.emitted(1));
        y.ratio(5, 1);
        y.ratio(1, 7);
        Check.due("emitted(1) of the second", 0, () -> y.emitted(Stock.ONE));
        Check.found(y, 0, 0, 5, 5);
        Check.found(x, 0, 0, 0, 0);
        Check.due("count of the first", 8, () -> x.count());
        Check.due("emitted(1) of the first", 1, () -> x.emitted(Stock.ONE));
    }

    /** "and itself, with them": one that is made of none is 1. */
    private static void needsOfOne() {
        Nestlimit x = new Nestlimit();
        x.ratio(1, 2);
        x.zero(-2, 0, 1, 0, 1, 0);
        x.ratio(65, 1);
        Check.due("needs of a ratio", 1, () -> x.needs(0));
        Check.due("needs of a zero", 1, () -> x.needs(1));
        Check.due("needs of one that finds none", 1, () -> x.needs(2));
    }

    /** "each counted once", of one part, of two, and of the same one twice, for each kind. */
    private static void needsCountsEachOnce() {
        Nestlimit x = new Nestlimit();
        x.ratio(1, 2);
        x.ratio(1, 3);
        for (int kind = 1; kind <= 7; kind++) {
            int number = make(x, kind, 0);
            Check.due("needs of the kind " + kind + ", of one", 2, () -> x.needs(number));
        }
        int sum = x.sum(0, 1);
        int difference = x.difference(1, 0);
        int product = x.product(0, 1);
        int greater = x.greater(1, 0);
        for (int number = sum; number <= greater; number++) {
            int of = number;
            Check.due("needs of two", 3, () -> x.needs(of));
        }
        int both = x.sum(sum, difference);
        int more = x.product(both, sum);
        int most = x.greater(more, 0);
        int none = x.sum(x.ratio(65, 1), most);
        Check.due("needs of two that share both", 5, () -> x.needs(both));
        Check.due("needs of one and what it is made of", 6, () -> x.needs(more));
        Check.due("needs with a part that is in it already", 7, () -> x.needs(most));
        Check.due("needs of one that finds none", 9, () -> x.needs(none));
        Check.due("needs of a part, as before", 1, () -> x.needs(0));
        Check.due("needs of a product, not made of the others", 3, () -> x.needs(product));
    }

    private static void needsOf40() {
        Nestlimit x = new Nestlimit();
        x.ratio(1, 64);
        for (int number = 1; number < 39; number++) {
            x.sum(number - 1, 0);
        }
        x.greater(38, 37);
        for (int number = 0; number < 40; number++) {
            int of = number;
            Check.due("needs(" + of + ")", of + 1, () -> x.needs(of));
        }
        Nestlimit y = new Nestlimit();
        for (int number = 0; number < 39; number++) {
            y.ratio(number, 1);
        }
        y.sum(0, 38);
        Check.due("needs(39), of the first and the last", 3, () -> y.needs(39));
        Check.due("needs(38), of itself", 1, () -> y.needs(38));
    }

    /** "An object is used for at most 512 calls": the last of these still answers as is due. */
    private static void last512thCall() {
        Nestlimit x = new Nestlimit();
        x.ratio(1, 3);
        x.ratio(1, 1);
        for (int call = 3; call < 512; call++) {
            if (call % 25 == 0) {
                x.restart(1);
            } else {
                Check.due("call " + call + ", next", 1, () -> x.next(1));
            }
        }
        Check.due("call 512", 2047, () -> x.partial(1));
        Nestlimit y = new Nestlimit();
        for (int call = 1; call < 512; call++) {
            Check.thrown("refused call " + call, Check.STATE, () -> y.zero(0, 0, 0, 0, 0, 0));
        }
        Check.due("call 512, behind 511 that are refused", 0, () -> y.ratio(1, 3));
        Nestlimit z = Stock.made();
        for (int call = 9; call < 512; call++) {
            Check.due("call " + call + ", instead", 2, () -> z.instead(Stock.AROUND, Stock.THIRD, Stock.AROUND, 5, true));
        }
        Check.due("call 512, raw", 1, () -> z.raw(Stock.AROUND, 5, true));
    }
}
