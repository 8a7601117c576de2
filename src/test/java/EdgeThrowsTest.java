/**
 * The first paragraph of the Terms, with what each promise says it throws. Each refused call is made
 * on an object of its own, which then is asked all it can be: it has to answer as one that was spared
 * the call.
 */
public final class EdgeThrowsTest {
    private static final int MIN = Integer.MIN_VALUE;
    private static final int MAX = Integer.MAX_VALUE;
    private static final int[] NO_PLACES = {-1, 25, MIN, MAX};
    private static final int[] ANY_PLACES = {0, 24, -1, 25};

    private interface Make {
        Nestlimit made();
    }

    private interface Use {
        long answer(Nestlimit x);
    }

    private static final State EMPTY = new State("none", Nestlimit::new);
    private static final State SOME = new State("some", EdgeThrowsTest::some);
    private static final State FULL = new State("40", EdgeThrowsTest::full);

    public static void main(String[] args) {
        for (State state : new State[] {EMPTY, SOME, FULL}) {
            noSuchProgram(state);
        }
        for (State state : new State[] {SOME, FULL}) {
            outOfRange(state);
            outOfRangeAndMore(state);
        }
        for (State state : new State[] {EMPTY, SOME, FULL}) {
            ratioOutOfRange(state);
            zeroOutOfRange(state);
        }
        zeroWithLikeSigns(EMPTY);
        zeroWithLikeSigns(SOME);
        zeroWithLikeSigns(FULL);
        thereAre40();
        findsNone(SOME);
        findsNone(FULL);
        wouldFindNone();
        notSure(SOME);
        notSure(FULL);
        noDigit(SOME);
        noDigit(FULL);
        Check.end("EdgeThrowsTest");
    }

    /** One of the states in which an object may be when a call is refused. */
    private static final class State {
        final String name;
        final Make make;
        final int count;
        final String spared;

        State(String name, Make make) {
            this.name = name;
            this.make = make;
            count = make.made().count();
            spared = seen(make.made());
        }

        void refuses(String what, Class<?> want, Use use) {
            Nestlimit x = make.made();
            Check.thrown("with " + name + ": " + what, want, () -> use.answer(x));
            Check.same("with " + name + ", after " + what, spared, seen(x));
        }
    }

    private static Nestlimit some() {
        Nestlimit x = new Nestlimit();
        x.ratio(1, 3);
        x.ratio(1, 1);
        x.ratio(65, 1);
        x.ratio(3, 2);
        x.inverse(0);
        x.difference(0, 0);
        x.sum(5, 5);
        x.zero(-2, 0, 1, 0, 1, 0);
        emit(x, 0, 5);
        emit(x, 1, 24);
        emit(x, 6, 23);
        return x;
    }

    /** The same eight, the same digits, and 32 more. */
    private static Nestlimit full() {
        Nestlimit x = some();
        for (int number = 8; number < 40; number++) {
            x.root(number - 1);
        }
        return x;
    }

    private static void emit(Nestlimit x, int program, int digits) {
        for (int digit = 0; digit < digits; digit++) {
            x.next(program);
        }
    }

    /** All that it answers, and what it goes on with; with the making of 40 less than 512 calls. */
    private static String seen(Nestlimit x) {
        StringBuilder all = new StringBuilder();
        int count = x.count();
        tell(all, () -> count);
        for (int program = 0; program < count; program++) {
            int number = program;
            tell(all, () -> x.needs(number));
            tell(all, () -> x.emitted(number));
            tell(all, () -> x.partial(number));
            tell(all, () -> x.raw(number, 24, false));
            tell(all, () -> x.told(number, 24, true));
            tell(all, () -> x.next(number));
            tell(all, () -> x.partial(number));
        }
        for (int program = 0; program < Math.min(count, 8); program++) {
            int number = program;
            tell(all, () -> x.raw(number, 0, true));
            tell(all, () -> x.told(number, 2, false));
            tell(all, () -> x.decimals(number, 16));
            tell(all, () -> x.restart(number));
        }
        tell(all, () -> x.ratio(1, 7));
        tell(all, () -> x.raw(count, 24, false));
        tell(all, () -> x.needs(count));
        return all.toString();
    }

    private static void tell(StringBuilder all, Check.Call call) {
        all.append(Check.outcome(call)).append(' ');
    }

    // ---- "IndexOutOfBoundsException: there is no such program."

    /** Also if all other arguments are out of range, and if there are 40: it is the one that is named first. */
    private static void noSuchProgram(State state) {
        for (int no : new int[] {-1, state.count, state.count + 1, 40, MIN, MAX}) {
            makingOfNo(state, no);
            othersOfNo(state, no);
            for (int place : ANY_PLACES) {
                intervalsOfNo(state, no, place);
                notationsOfNo(state, no, place);
            }
        }
        if (state.count == 0) {
            makingOfNo(state, 0);
            othersOfNo(state, 0);
            intervalsOfNo(state, 0, 0);
            notationsOfNo(state, 0, 0);
        }
    }

    private static void makingOfNo(State state, int no) {
        state.refuses("sum(" + no + ", 0)", Check.INDEX, x -> x.sum(no, 0));
        state.refuses("sum(0, " + no + ")", Check.INDEX, x -> x.sum(0, no));
        state.refuses("difference(" + no + ", 0)", Check.INDEX, x -> x.difference(no, 0));
        state.refuses("difference(0, " + no + ")", Check.INDEX, x -> x.difference(0, no));
        state.refuses("product(" + no + ", 0)", Check.INDEX, x -> x.product(no, 0));
        state.refuses("product(0, " + no + ")", Check.INDEX, x -> x.product(0, no));
        state.refuses("greater(" + no + ", 0)", Check.INDEX, x -> x.greater(no, 0));
        state.refuses("greater(0, " + no + ")", Check.INDEX, x -> x.greater(0, no));
        state.refuses("sum of " + no + ", twice", Check.INDEX, x -> x.sum(no, no));
        state.refuses("inverse(" + no + ")", Check.INDEX, x -> x.inverse(no));
        state.refuses("root(" + no + ")", Check.INDEX, x -> x.root(no));
        state.refuses("exp(" + no + ")", Check.INDEX, x -> x.exp(no));
    }

    private static void othersOfNo(State state, int no) {
        state.refuses("decided(" + no + ", 0)", Check.INDEX, x -> x.decided(no, 0));
        state.refuses("decided(0, " + no + ")", Check.INDEX, x -> x.decided(0, no));
        state.refuses("next(" + no + ")", Check.INDEX, x -> x.next(no));
        state.refuses("emitted(" + no + ")", Check.INDEX, x -> x.emitted(no));
        state.refuses("partial(" + no + ")", Check.INDEX, x -> x.partial(no));
        state.refuses("restart(" + no + ")", Check.INDEX, x -> x.restart(no));
        state.refuses("needs(" + no + ")", Check.INDEX, x -> x.needs(no));
    }

    private static void intervalsOfNo(State state, int no, int place) {
        String at = " of " + no + " at " + place;
        state.refuses("raw" + at, Check.INDEX, x -> x.raw(no, place, false));
        state.refuses("told" + at, Check.INDEX, x -> x.told(no, place, true));
        state.refuses("place" + at, Check.INDEX, x -> x.place(no, place));
        state.refuses("instead" + at, Check.INDEX, x -> x.instead(no, 0, 0, place, true));
        state.refuses("instead, gone" + at, Check.INDEX, x -> x.instead(0, no, 0, place, false));
        state.refuses("instead, other" + at, Check.INDEX, x -> x.instead(0, 0, no, place, true));
        // 2 finds none, and 3 is not made of it.
        state.refuses("instead of none" + at, Check.INDEX, x -> x.instead(2, no, 2, place, true));
        state.refuses("instead by none" + at, Check.INDEX, x -> x.instead(no, no, 2, place, true));
        state.refuses("instead of one not made of it, other" + at, Check.INDEX, x -> x.instead(3, 2, no, place, true));
    }

    private static void notationsOfNo(State state, int no, int place) {
        String at = " of " + no + " at " + place;
        state.refuses("compare" + at, Check.INDEX, x -> x.compare(no, 0, place));
        state.refuses("compare, other" + at, Check.INDEX, x -> x.compare(0, no, place));
        state.refuses("decimals" + at, Check.INDEX, x -> x.decimals(no, place));
        for (int number : new int[] {0, -1, 25}) {
            state.refuses("decimal " + number + at, Check.INDEX, x -> x.decimal(no, place, number));
            state.refuses("quotient " + number + at, Check.INDEX, x -> x.quotient(no, place, number));
        }
    }

    // ---- "IllegalArgumentException: another argument is out of its range."

    private static void outOfRange(State state) {
        for (int no : NO_PLACES) {
            state.refuses("raw at " + no, Check.ARGUMENT, x -> x.raw(0, no, false));
            state.refuses("told at " + no, Check.ARGUMENT, x -> x.told(0, no, false));
            state.refuses("instead at " + no, Check.ARGUMENT, x -> x.instead(5, 0, 1, no, false));
            state.refuses("place, fine " + no, Check.ARGUMENT, x -> x.place(0, no));
            state.refuses("compare at " + no, Check.ARGUMENT, x -> x.compare(0, 1, no));
            state.refuses("compare with itself at " + no, Check.ARGUMENT, x -> x.compare(0, 0, no));
            state.refuses("decimals at " + no, Check.ARGUMENT, x -> x.decimals(1, no));
            state.refuses("decimal at " + no, Check.ARGUMENT, x -> x.decimal(1, no, 0));
            state.refuses("quotient at " + no, Check.ARGUMENT, x -> x.quotient(1, no, 0));
            state.refuses("quotient " + no, Check.ARGUMENT, x -> x.quotient(1, 0, no));
        }
        for (int no : new int[] {-1, 8, MIN, MAX}) {
            state.refuses("decimal " + no, Check.ARGUMENT, x -> x.decimal(1, 0, no));
        }
    }

    /** "If several apply, the one that the throws clause names first is thrown": here it finds none as well. */
    private static void outOfRangeAndMore(State state) {
        for (int no : NO_PLACES) {
            state.refuses("raw of none at " + no, Check.ARGUMENT, x -> x.raw(2, no, true));
            state.refuses("told of none at " + no, Check.ARGUMENT, x -> x.told(2, no, true));
            state.refuses("instead of none at " + no, Check.ARGUMENT, x -> x.instead(2, 0, 1, no, true));
            state.refuses("instead by none at " + no, Check.ARGUMENT, x -> x.instead(0, 0, 2, no, true));
            state.refuses("place of none, fine " + no, Check.ARGUMENT, x -> x.place(2, no));
            state.refuses("compare none at " + no, Check.ARGUMENT, x -> x.compare(2, 2, no));
            state.refuses("decimals of none at " + no, Check.ARGUMENT, x -> x.decimals(2, no));
            state.refuses("decimal of none at " + no, Check.ARGUMENT, x -> x.decimal(2, no, 0));
            state.refuses("decimal -1 of none at " + no, Check.ARGUMENT, x -> x.decimal(2, no, -1));
            state.refuses("quotient of none at " + no, Check.ARGUMENT, x -> x.quotient(2, no, 0));
            state.refuses("quotient 25 of none at " + no, Check.ARGUMENT, x -> x.quotient(2, no, 25));
            state.refuses("quotient " + no + " of none", Check.ARGUMENT, x -> x.quotient(2, 0, no));
            state.refuses("quotient " + no + ", not sure", Check.ARGUMENT, x -> x.quotient(0, 0, no));
        }
        for (int no : new int[] {-1, 8, MIN, MAX}) {
            state.refuses("decimal " + no + " of none", Check.ARGUMENT, x -> x.decimal(2, 0, no));
            state.refuses("decimal " + no + ", not sure", Check.ARGUMENT, x -> x.decimal(0, 0, no));
            state.refuses("decimal " + no + " at 25", Check.ARGUMENT, x -> x.decimal(0, 25, no));
        }
    }

    /** Also if there are 40. */
    private static void ratioOutOfRange(State state) {
        for (int no : new int[] {-1001, 1001, MIN, MAX}) {
            state.refuses("ratio(" + no + ", 1)", Check.ARGUMENT, x -> x.ratio(no, 1));
            state.refuses("ratio(" + no + ", 1000)", Check.ARGUMENT, x -> x.ratio(no, 1000));
            state.refuses("ratio(" + no + ", 0)", Check.ARGUMENT, x -> x.ratio(no, 0));
        }
        for (int no : new int[] {0, -1, 1001, -1001, MIN, MAX}) {
            state.refuses("ratio(0, " + no + ")", Check.ARGUMENT, x -> x.ratio(0, no));
            state.refuses("ratio(1000, " + no + ")", Check.ARGUMENT, x -> x.ratio(1000, no));
        }
    }

    /** Also if there are 40, and if the signs would be like ones, or 0. */
    private static void zeroOutOfRange(State state) {
        for (int no : new int[] {-10, 10, MIN, MAX}) {
            int sign = no < 0 ? 1 : -1;
            state.refuses("zero, a " + no, Check.ARGUMENT, x -> x.zero(no, 9 * sign, 9 * sign, 0, 0, 2));
            state.refuses("zero, b " + no, Check.ARGUMENT, x -> x.zero(sign, no, 0, 0, 0, 0));
            state.refuses("zero, c " + no, Check.ARGUMENT, x -> x.zero(sign, 0, no, 0, 0, 0));
            state.refuses("zero, d " + no, Check.ARGUMENT, x -> x.zero(sign, 0, 0, no, 0, 0));
            state.refuses("zero, like signs, a " + no, Check.ARGUMENT, x -> x.zero(no, 0, 0, 0, 0, 0));
            state.refuses("zero, 0 at an end, b " + no, Check.ARGUMENT, x -> x.zero(0, no, 0, 0, 0, 0));
        }
        for (int no : new int[] {-5, 4, MIN, MAX}) {
            state.refuses("zero, from " + no, Check.ARGUMENT, x -> x.zero(no < 0 ? 9 : -9, 2, 0, 0, no, 0));
            state.refuses("zero, like signs, from " + no, Check.ARGUMENT, x -> x.zero(1, 0, 0, 0, no, 0));
        }
        for (int no : new int[] {-1, 3, 31, 32, 33, MIN, MAX}) {
            state.refuses("zero, halves " + no, Check.ARGUMENT, x -> x.zero(-1, 2, 0, 0, 0, no));
            state.refuses("zero, like signs, halves " + no, Check.ARGUMENT, x -> x.zero(1, 0, 0, 0, 0, no));
        }
    }

    // ---- "IllegalStateException: as the method says."

    /** "if its signs at both are not unlike, or one is 0": x less 1, 2, .. has its 0 at either end. */
    private static void zeroWithLikeSigns(State state) {
        int[] more = {1, 2, 4};
        for (int halves = 0; halves <= 2; halves++) {
            int step = halves;
            String to = " to " + more[halves] + " more";
            state.refuses("zero, both above 0," + to, Check.STATE, x -> x.zero(1, 0, 1, 0, -1, step));
            state.refuses("zero, both below 0," + to, Check.STATE, x -> x.zero(-1, 0, -1, 0, -1, step));
            state.refuses("zero, 0 at from, then above," + to, Check.STATE, x -> x.zero(-1, 1, 0, 0, 1, step));
            state.refuses("zero, 0 at from, then below," + to, Check.STATE, x -> x.zero(1, -1, 0, 0, 1, step));
            state.refuses("zero, below, then 0," + to, Check.STATE, x -> x.zero(-4, 1, 0, 0, 4 - more[step], step));
            state.refuses("zero, above, then 0," + to, Check.STATE, x -> x.zero(4, -1, 0, 0, 4 - more[step], step));
            state.refuses("zero, 0 all over," + to, Check.STATE, x -> x.zero(0, 0, 0, 0, 0, step));
        }
        state.refuses("zero, 0 at both", Check.STATE, x -> x.zero(0, -2, 1, 0, 0, 1));
        state.refuses("zero, above 0, with two between", Check.STATE, x -> x.zero(1, -4, 2, 0, 0, 2));
    }

    /** "if there are 40", whatever is made. */
    private static void thereAre40() {
        FULL.refuses("ratio", Check.STATE, x -> x.ratio(1, 2));
        FULL.refuses("ratio, beyond 64", Check.STATE, x -> x.ratio(1000, 1));
        FULL.refuses("sum", Check.STATE, x -> x.sum(0, 39));
        FULL.refuses("difference", Check.STATE, x -> x.difference(39, 0));
        FULL.refuses("product", Check.STATE, x -> x.product(39, 39));
        FULL.refuses("greater", Check.STATE, x -> x.greater(0, 0));
        FULL.refuses("inverse", Check.STATE, x -> x.inverse(39));
        FULL.refuses("root", Check.STATE, x -> x.root(0));
        FULL.refuses("exp", Check.STATE, x -> x.exp(39));
        FULL.refuses("zero", Check.STATE, x -> x.zero(-1, 2, 0, 0, 0, 0));
        FULL.refuses("sum of one that finds none", Check.STATE, x -> x.sum(2, 2));
    }

    /** "if it FINDS none" and "if nothing is TOLD": at any place, or only at low ones. */
    private static void findsNone(State state) {
        for (int place : Stock.PLACES) {
            state.refuses("raw of none at " + place, Check.STATE, x -> x.raw(2, place, false));
            state.refuses("told of none at " + place, Check.STATE, x -> x.told(2, place, true));
            state.refuses("decimal of none at " + place, Check.STATE, x -> x.decimal(2, place, 0));
            state.refuses("quotient of none at " + place, Check.STATE, x -> x.quotient(2, place, 0));
        }
        for (int place = 0; place <= 1; place++) {
            int early = place;
            state.refuses("raw of none yet at " + early, Check.STATE, x -> x.raw(4, early, true));
            state.refuses("told of none yet at " + early, Check.STATE, x -> x.told(4, early, false));
            state.refuses("decimal of none yet at " + early, Check.STATE, x -> x.decimal(4, early, 0));
            state.refuses("quotient of none yet at " + early, Check.STATE, x -> x.quotient(4, early, 0));
        }
    }

    /** "if it would FIND none". */
    private static void wouldFindNone() {
        for (int place : Stock.PLACES) {
            SOME.refuses("instead by none at " + place, Check.STATE, x -> x.instead(6, 0, 2, place, true));
            SOME.refuses("instead of itself by none at " + place, Check.STATE, x -> x.instead(0, 0, 2, place, true));
            SOME.refuses("instead of none by none at " + place, Check.STATE, x -> x.instead(2, 2, 2, place, false));
            SOME.refuses("instead, not made of it, at " + place, Check.STATE, x -> x.instead(2, 0, 1, place, false));
            SOME.refuses("instead, by what holds 0, at " + place, Check.STATE, x -> x.instead(4, 0, 5, place, false));
        }
    }

    /** "if it is not SURE". */
    private static void notSure(State state) {
        for (int number : new int[] {0, 1, 7}) {
            state.refuses("decimal " + number + " of 0 to 1", Check.STATE, x -> x.decimal(0, 0, number));
            state.refuses("quotient " + number + " of 0 to 1", Check.STATE, x -> x.quotient(0, 0, number));
        }
        state.refuses("decimal 7 of -1 to 1 unit at 23", Check.STATE, x -> x.decimal(5, 23, 7));
        state.refuses("decimal 1 of 0 to 1/2", Check.STATE, x -> x.decimal(0, 1, 1));
        state.refuses("quotient 1 of 1, of which nothing is left", Check.STATE, x -> x.quotient(1, 24, 1));
        state.refuses("quotient 24 of 1", Check.STATE, x -> x.quotient(1, 24, 24));
    }

    /** "if it has emitted 24, or none is SURE at any of the PLACES". */
    private static void noDigit(State state) {
        state.refuses("next, 24 are emitted", Check.STATE, x -> x.next(1));
        state.refuses("next, nothing is told", Check.STATE, x -> x.next(2));
        state.refuses("next, beyond 1", Check.STATE, x -> x.next(3));
        state.refuses("next, far beyond 1", Check.STATE, x -> x.next(4));
        state.refuses("next, none is sure for the last digit", Check.STATE, x -> x.next(6));
    }
}
