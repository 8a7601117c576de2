/**
 * Promise 13, sentence by sentence. What would be found, if one program was as another one is, is what
 * is found by a twin that is made with that other one: most tests make both.
 */
public final class EdgeInsteadTest {
    public static void main(String[] args) {
        eachKind();
        eachPart();
        sameOneTwice();
        manyStepsOn();
        asItIsThoughMadeOfIt();
        higherNumber();
        noneInPlaceOfIt();
        someInPlaceOfNone();
        noneAtLowPlacesAlone();
        itself();
        notMadeOfIt();
        byItself();
        wouldBeAt64();
        wouldHoldZero();
        wouldBeBeyond1();
        eachPlaceByItself();
        first40();
        nothingChanges();
        Check.end("EdgeInsteadTest");
    }

    /** The answers are those of raw of the twin, or its exception, at the places 0, 16, 17 and 24. */
    private static void as(Nestlimit x, int program, int gone, int other, int twin) {
        for (int place : Stock.PLACES) {
            for (boolean isHigh : new boolean[] {false, true}) {
                Check.same("instead(" + program + ", " + gone + ", " + other + ", " + place + ", " + isHigh + ")",
                        Check.outcome(() -> x.raw(twin, place, isHigh)),
                        Check.outcome(() -> x.instead(program, gone, other, place, isHigh)));
            }
        }
    }

    private static void noneAnywhere(Nestlimit x, int program, int gone, int other) {
        for (int place : Stock.PLACES) {
            Check.noInstead(x, program, gone, other, place);
        }
    }

    /** "what a program would FIND at a PLACE, if one of the programs found what another one FINDS there", for kinds of one part. */
    private static void eachKind() {
        Nestlimit x = new Nestlimit();
        int gone = x.ratio(2, 3);
        int other = x.ratio(-5, 7);
        as(x, x.inverse(gone), gone, other, x.inverse(other));
        as(x, x.root(gone), gone, other, x.root(other));
        as(x, x.exp(gone), gone, other, x.exp(other));
        as(x, x.inverse(other), other, gone, x.inverse(gone));
        as(x, x.root(other), other, gone, x.root(gone));
        as(x, x.exp(other), other, gone, x.exp(gone));
    }

    /** Kinds of two parts, of which either one is replaced. */
    private static void eachPart() {
        Nestlimit x = new Nestlimit();
        int one = x.ratio(2, 3);
        int two = x.ratio(-13, 7);
        int other = x.ratio(11, 9);
        as(x, x.sum(one, two), one, other, x.sum(other, two));
        as(x, x.sum(one, two), two, other, x.sum(one, other));
        as(x, x.difference(one, two), one, other, x.difference(other, two));
        as(x, x.difference(one, two), two, other, x.difference(one, other));
        as(x, x.product(one, two), one, other, x.product(other, two));
        as(x, x.product(one, two), two, other, x.product(one, other));
        as(x, x.greater(one, two), one, other, x.greater(other, two));
        as(x, x.greater(one, two), two, other, x.greater(one, other));
    }

    private static void sameOneTwice() {
        Nestlimit x = new Nestlimit();
        int gone = x.ratio(2, 3);
        int other = x.ratio(-13, 7);
        as(x, x.sum(gone, gone), gone, other, x.sum(other, other));
        as(x, x.difference(gone, gone), gone, other, x.difference(other, other));
        as(x, x.product(gone, gone), gone, other, x.product(other, other));
        as(x, x.greater(gone, gone), gone, other, x.greater(other, other));
    }

    /** All that lies between is as it would be too, by whichever way it is made of the one that is gone. */
    private static void manyStepsOn() {
        Nestlimit x = new Nestlimit();
        int gone = x.zero(-2, 0, 1, 0, 1, 0);
        int other = x.ratio(7, 5);
        int aside = x.ratio(1, 3);
        int program = chain(x, gone, aside);
        int twin = chain(x, other, aside);
        as(x, program, gone, other, twin);
        as(x, twin, other, gone, program);
        // One step of the way is replaced by the same step of the twin.
        for (int step = 1; step < 5; step++) {
            as(x, program - step, gone, other, twin - step);
        }
    }

    private static int chain(Nestlimit x, int from, int aside) {
        int square = x.product(from, from);
        int less = x.difference(square, from);
        int root = x.root(less);
        int both = x.sum(root, from);
        int aslant = x.product(both, aside);
        int turned = x.inverse(aslant);
        return x.greater(turned, root);
    }

    /** "(that one as it is, also if it is made of the one that is replaced ..)". */
    private static void asItIsThoughMadeOfIt() {
        Nestlimit x = new Nestlimit();
        int gone = x.ratio(1, 3);
        int one = x.ratio(1, 1);
        int other = x.sum(gone, one);
        int program = x.sum(gone, gone);
        int further = x.product(other, gone);
        as(x, program, gone, other, x.sum(other, other));
        as(x, other, gone, other, x.sum(other, one));
        as(x, further, gone, other, x.product(x.sum(other, one), other));
        as(x, further, gone, further, x.product(x.sum(further, one), further));
        Check.instead(x, other, gone, other, 4, 37, 38);
        Check.instead(x, program, gone, other, 4, 42, 44);
        Check.instead(x, further, gone, further, 4, 8, 15);
    }

    /** "or has a higher number": than the one that is replaced, and than the program itself. */
    private static void higherNumber() {
        Nestlimit x = new Nestlimit();
        int gone = x.ratio(1, 3);
        int program = x.sum(gone, gone);
        int apart = x.ratio(-7, 2);
        int made = x.root(program);
        as(x, program, gone, apart, x.sum(apart, apart));
        as(x, program, gone, made, x.sum(made, made));
        as(x, gone, gone, made, made);
        as(x, program, program, made, made);
        Check.instead(x, program, gone, apart, 0, -8, -6);
    }

    /** "if that one FINDS none, none is found in place of it". */
    private static void noneInPlaceOfIt() {
        Nestlimit x = Stock.made();
        int sum = x.sum(Stock.THIRD, Stock.ONE);
        int greater = x.greater(Stock.ONE, Stock.THIRD);
        int product = x.product(Stock.NIL, sum);
        noneAnywhere(x, sum, Stock.THIRD, Stock.NOTHING);
        noneAnywhere(x, sum, Stock.ONE, Stock.NOTHING);
        noneAnywhere(x, greater, Stock.THIRD, Stock.NOTHING);
        noneAnywhere(x, product, Stock.NIL, Stock.NOTHING);
        noneAnywhere(x, product, sum, Stock.NOTHING);
        noneAnywhere(x, product, Stock.THIRD, Stock.NOTHING);
        noneAnywhere(x, sum, sum, Stock.NOTHING);
        noneAnywhere(x, Stock.THIRD, Stock.THIRD, Stock.NOTHING);
        noneAnywhere(x, Stock.NOTHING, Stock.NOTHING, Stock.NOTHING);
    }

    /** What finds none as it is may find some then, and none as before if another part still finds none. */
    private static void someInPlaceOfNone() {
        Nestlimit x = Stock.made();
        int sum = x.sum(Stock.NOTHING, Stock.ONE);
        int root = x.root(sum);
        int both = x.product(Stock.NOTHING, x.inverse(Stock.NIL));
        as(x, sum, Stock.NOTHING, Stock.THIRD, x.sum(Stock.THIRD, Stock.ONE));
        as(x, root, sum, Stock.THIRD, x.root(Stock.THIRD));
        as(x, root, Stock.NOTHING, Stock.NIL, x.root(Stock.ONE));
        as(x, Stock.NOTHING, Stock.NOTHING, Stock.THIRD, Stock.THIRD);
        noneAnywhere(x, both, Stock.NOTHING, Stock.ONE);
        noneAnywhere(x, both, Stock.NIL, Stock.ONE);
        noneAnywhere(x, sum, Stock.ONE, Stock.NIL);
        Check.instead(x, root, Stock.NOTHING, Stock.NIL, 24, 16777216, 16777216);
    }

    /** "at a PLACE": 3 finds none at 0 and 1, and what is near 1/64 none at 16. */
    private static void noneAtLowPlacesAlone() {
        Nestlimit x = Stock.made();
        int late = x.inverse(Stock.THIRD);
        int sum = x.sum(Stock.ONE, Stock.ONE);
        Check.noInstead(x, sum, Stock.ONE, late, 0);
        Check.noInstead(x, sum, Stock.ONE, late, 1);
        Check.instead(x, sum, Stock.ONE, late, 2, 16, 32);
        Check.noInstead(x, late, Stock.NIL, Stock.ONE, 1);
        Check.instead(x, late, Stock.THIRD, Stock.ONE, 0, 1, 1);
        int last = Stock.addLate(x, 17);
        Check.noInstead(x, sum, Stock.ONE, last, 16);
        Check.instead(x, sum, Stock.ONE, last, 17, 4096, 4102);
        int lastOfAll = Stock.addLate(x, 24);
        Check.noInstead(x, sum, Stock.ONE, lastOfAll, 17);
        Check.instead(x, sum, Stock.ONE, lastOfAll, 24, 524288, 524294);
    }

    /** "gone: the program that is replaced, perhaps that one itself". */
    private static void itself() {
        Nestlimit x = Stock.made();
        int sum = x.sum(Stock.THIRD, Stock.ONE);
        int zero = x.zero(-2, 0, 1, 0, 1, 0);
        as(x, sum, sum, Stock.THIRD, Stock.THIRD);
        as(x, sum, sum, zero, zero);
        as(x, zero, zero, sum, sum);
        as(x, Stock.THIRD, Stock.THIRD, zero, zero);
        as(x, Stock.NIL, Stock.NIL, Stock.NOTHING, Stock.NOTHING);
        Check.instead(x, zero, zero, Stock.TINY, 24, 0, 1);
    }

    /** "or one of which it is not made": also one that is made of it, and then it is as it is. */
    private static void notMadeOfIt() {
        Nestlimit x = Stock.made();
        int sum = x.sum(Stock.THIRD, Stock.ONE);
        int root = x.root(sum);
        as(x, sum, Stock.NIL, Stock.ONE, sum);
        as(x, sum, root, Stock.ONE, sum);
        as(x, sum, root, Stock.NOTHING, sum);
        as(x, sum, Stock.NOTHING, Stock.ONE, sum);
        as(x, Stock.THIRD, Stock.ONE, Stock.NOTHING, Stock.THIRD);
        as(x, Stock.THIRD, sum, root, Stock.THIRD);
        as(x, Stock.NOTHING, Stock.ONE, Stock.NIL, Stock.NOTHING);
        as(x, root, Stock.AROUND, Stock.NOTHING, root);
    }

    /** What is replaced by itself is as it is, at every step of the way. */
    private static void byItself() {
        Nestlimit x = Stock.made();
        int sum = x.sum(Stock.THIRD, Stock.ONE);
        int root = x.root(sum);
        as(x, root, Stock.THIRD, Stock.THIRD, root);
        as(x, root, sum, sum, root);
        as(x, root, root, root, root);
        as(x, root, Stock.NOTHING, Stock.NOTHING, root);
        as(x, Stock.NOTHING, Stock.NOTHING, Stock.NOTHING, Stock.NOTHING);
    }

    /** "if it would FIND none": 64 itself is not beyond, 1 unit more is, at the end and on the way. */
    private static void wouldBeAt64() {
        Nestlimit x = Stock.made();
        int most = x.ratio(64, 1);
        int least = x.ratio(-64, 1);
        int sum = x.sum(Stock.ONE, Stock.NIL);
        int product = x.product(sum, Stock.NIL);
        as(x, sum, Stock.ONE, most, most);
        as(x, sum, Stock.ONE, least, least);
        as(x, product, Stock.ONE, most, Stock.NIL);
        int beyond = x.sum(Stock.NIL, most);
        int later = x.product(beyond, Stock.NIL);
        noneAnywhere(x, beyond, Stock.NIL, Stock.TINY);
        noneAnywhere(x, beyond, Stock.NIL, Stock.AROUND);
        noneAnywhere(x, later, Stock.NIL, Stock.TINY);
        int below = x.difference(least, Stock.NIL);
        noneAnywhere(x, below, Stock.NIL, Stock.TINY);
        noneAnywhere(x, x.root(below), Stock.NIL, Stock.ONE);
        Check.instead(x, below, least, most, 24, 1073741824, 1073741824);
    }

    private static void wouldHoldZero() {
        Nestlimit x = Stock.made();
        int inverse = x.inverse(Stock.ONE);
        int further = x.sum(inverse, Stock.ONE);
        int below = x.difference(Stock.NIL, Stock.TINY);
        for (int other : new int[] {Stock.NIL, Stock.TINY, Stock.AROUND, below}) {
            noneAnywhere(x, inverse, Stock.ONE, other);
            noneAnywhere(x, further, Stock.ONE, other);
        }
        Check.noInstead(x, inverse, Stock.ONE, Stock.THIRD, 1);
        Check.instead(x, inverse, Stock.ONE, Stock.THIRD, 2, 8, 16);
        Check.instead(x, further, Stock.ONE, Stock.THIRD, 2, 9, 18);
    }

    private static void wouldBeBeyond1() {
        Nestlimit x = Stock.made();
        int exp = x.exp(Stock.NIL);
        int below = x.ratio(-1, 1);
        noneAnywhere(x, exp, Stock.NIL, x.sum(Stock.ONE, Stock.TINY));
        noneAnywhere(x, exp, Stock.NIL, x.difference(below, Stock.TINY));
        noneAnywhere(x, exp, Stock.NIL, Stock.NOTHING);
        as(x, exp, Stock.NIL, Stock.ONE, x.exp(Stock.ONE));
        as(x, exp, Stock.NIL, below, x.exp(below));
        as(x, exp, Stock.NIL, Stock.AROUND, x.exp(Stock.AROUND));
        Check.instead(x, exp, Stock.NIL, Stock.ONE, 24, 45605200, 45605203);
    }

    /** "what another one FINDS there": at each of the 25 places what it finds at that one. */
    private static void eachPlaceByItself() {
        Nestlimit x = new Nestlimit();
        int gone = x.ratio(1, 1);
        int other = x.ratio(22, 7);
        int program = x.difference(gone, x.ratio(1, 2));
        int twin = x.difference(other, 2);
        for (int place = 0; place <= 24; place++) {
            int there = place;
            for (boolean isHigh : new boolean[] {false, true}) {
                Check.due("instead at " + place, x.raw(twin, place, isHigh),
                        () -> x.instead(program, gone, other, there, isHigh));
            }
        }
    }

    /** With 40 programs: the first and the last one of each of the three. */
    private static void first40() {
        Nestlimit x = new Nestlimit();
        x.ratio(1, 64);
        for (int number = 1; number < 40; number++) {
            x.sum(number - 1, 0);
        }
        Check.instead(x, 39, 0, 39, 6, 1600, 1600);
        Check.instead(x, 39, 39, 0, 6, 1, 1);
        Check.instead(x, 39, 38, 0, 6, 2, 2);
        Check.instead(x, 39, 1, 39, 24, 20447232, 20447232);
        Check.instead(x, 0, 39, 38, 24, 262144, 262144);
        Check.instead(x, 0, 0, 39, 24, 10485760, 10485760);
        Check.instead(x, 38, 39, 0, 24, 10223616, 10223616);
        Check.instead(x, 39, 39, 39, 24, 10485760, 10485760);
    }

    /** "Nothing changes.", whether it answers or throws. */
    private static void nothingChanges() {
        Nestlimit x = Stock.made();
        Nestlimit spared = Stock.made();
        x.sum(Stock.THIRD, Stock.ONE);
        spared.sum(Stock.THIRD, Stock.ONE);
        x.next(Stock.ONE);
        spared.next(Stock.ONE);
        for (int gone = 0; gone < 9; gone++) {
            for (int other = 0; other < 9; other++) {
                int one = gone;
                int two = other;
                Check.outcome(() -> x.instead(8, one, two, 24, false));
                Check.outcome(() -> x.instead(one, one, two, 0, true));
            }
        }
        Check.same("what there is behind 162 calls", seen(spared), seen(x));
    }

    private static String seen(Nestlimit x) {
        StringBuilder all = new StringBuilder();
        all.append(x.count());
        for (int program = 0; program < 9; program++) {
            int number = program;
            for (int place : Stock.PLACES) {
                tell(all, () -> x.raw(number, place, false));
                tell(all, () -> x.raw(number, place, true));
                tell(all, () -> x.told(number, place, true));
            }
            tell(all, () -> x.needs(number));
            tell(all, () -> x.emitted(number));
            tell(all, () -> x.next(number));
            tell(all, () -> x.partial(number));
        }
        return all.toString();
    }

    private static void tell(StringBuilder all, Check.Call call) {
        all.append(' ').append(Check.outcome(call));
    }
}
