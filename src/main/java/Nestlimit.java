/**
 * Numbers told to any place asked: programs of reals, as intervals that only shrink.
 *
 * Programs never change, so all that one finds and all that is told of it, at every place, is
 * reckoned once, when it is made. Later calls look it up; only instead() reckons anew.
 */
public final class Nestlimit {
    public static final int NONE = -1;
    public static final int LESS = -1, WAITS = 0, MORE = 1;

    private static final int MOST_PROGRAMS = 40;
    private static final int LAST_PLACE = 24;
    private static final int LAST_HALVED_PLACE = 16;
    private static final long FARTHEST = 64;

    private static final int FARTHEST_NUMERATOR = 1000;
    private static final int GREATEST_DENOMINATOR = 1000;
    private static final int FARTHEST_FACTOR = 9;
    private static final int LEAST_FROM = -4;
    private static final int GREATEST_FROM = 3;
    private static final int MOST_HALVES = 2;

    private static final int EXP_STEPS = 12;
    private static final int HIGHEST_ROOT_BIT = 30;
    private static final int LAST_DECIMAL = 7;
    private static final long[] TENS = {1, 10, 100, 1000, 10000, 100000, 1000000, 10000000};
    private static final int LAST_QUOTIENT = 24;
    private static final int MOST_DIGITS = 24;
    private static final int UNSURE = 2;

    private final Program[] programs;
    private int made;

    // Made once and used by every call, so that calls make nothing that stays.
    private final Interval answer;
    private final Interval first;
    private final Interval second;
    private final Row supposed;
    private final Fraction lowEnd;
    private final Fraction highEnd;

    public Nestlimit() {
        programs = new Program[MOST_PROGRAMS];
        made = 0;
        answer = new Interval();
        first = new Interval();
        second = new Interval();
        supposed = new Row(MOST_PROGRAMS);
        lowEnd = new Fraction();
        highEnd = new Fraction();
    }

    // ---- making

    public int ratio(int numerator, int denominator) throws IllegalArgumentException, IllegalStateException {
        requireWithin(numerator, -FARTHEST_NUMERATOR, FARTHEST_NUMERATOR);
        requireWithin(denominator, 1, GREATEST_DENOMINATOR);
        requireRoom();
        Program program = new Program(Kind.RATIO, NONE, NONE, ownBit());
        for (int place = 0; place <= LAST_PLACE; place++) {
            long units = numerator * unitsAt(place);
            answer.assign(cut(units, denominator), fill(units, denominator));
            answer.dropBeyondReach(place);
            program.found.put(place, answer);
        }
        return add(program);
    }

    public int sum(int one, int other) throws IndexOutOfBoundsException, IllegalStateException {
        return make(Kind.SUM, one, other);
    }

    public int difference(int one, int other) throws IndexOutOfBoundsException, IllegalStateException {
        return make(Kind.DIFFERENCE, one, other);
    }

    public int product(int one, int other) throws IndexOutOfBoundsException, IllegalStateException {
        return make(Kind.PRODUCT, one, other);
    }

    public int greater(int one, int other) throws IndexOutOfBoundsException, IllegalStateException {
        return make(Kind.GREATER, one, other);
    }

    public int inverse(int one) throws IndexOutOfBoundsException, IllegalStateException {
        return make(Kind.INVERSE, one, one);
    }

    public int root(int one) throws IndexOutOfBoundsException, IllegalStateException {
        return make(Kind.ROOT, one, one);
    }

    public int exp(int one) throws IndexOutOfBoundsException, IllegalStateException {
        return make(Kind.EXP, one, one);
    }

    public int zero(int a, int b, int c, int d, int from, int halves) throws IllegalArgumentException, IllegalStateException {
        requireWithin(a, -FARTHEST_FACTOR, FARTHEST_FACTOR);
        requireWithin(b, -FARTHEST_FACTOR, FARTHEST_FACTOR);
        requireWithin(c, -FARTHEST_FACTOR, FARTHEST_FACTOR);
        requireWithin(d, -FARTHEST_FACTOR, FARTHEST_FACTOR);
        requireWithin(from, LEAST_FROM, GREATEST_FROM);
        requireWithin(halves, 0, MOST_HALVES);
        requireRoom();
        Polynomial polynomial = new Polynomial(a, b, c, d);
        int signAtFrom = polynomial.signAt(from, 0);
        int signAtTo = polynomial.signAt(from + (1 << halves), 0);
        if (signAtFrom * signAtTo >= 0) {
            throw new IllegalStateException("the signs at both are not unlike");
        }
        Program program = new Program(Kind.ZERO, NONE, NONE, ownBit());
        for (int place = 0; place <= LAST_PLACE; place++) {
            findZero(polynomial, from, halves, place);
            program.found.put(place, answer);
        }
        return add(program);
    }

    // ---- intervals

    public long raw(int program, int place, boolean isHigh)
            throws IndexOutOfBoundsException, IllegalArgumentException, IllegalStateException {
        Program asked = existing(program);
        requireWithin(place, 0, LAST_PLACE);
        asked.found.load(place, answer);
        return endOfAnswer(isHigh);
    }

    public long told(int program, int place, boolean isHigh)
            throws IndexOutOfBoundsException, IllegalArgumentException, IllegalStateException {
        loadTold(program, place);
        return endOfAnswer(isHigh);
    }

    public long instead(int program, int gone, int other, int place, boolean isHigh)
            throws IndexOutOfBoundsException, IllegalArgumentException, IllegalStateException {
        existing(program);
        existing(gone);
        Program substitute = existing(other);
        requireWithin(place, 0, LAST_PLACE);
        substitute.found.load(place, answer);
        supposed.put(gone, answer);
        for (int number = gone + 1; number <= program; number++) {
            suppose(number, gone, place);
        }
        loadSupposed(program, gone, place, answer);
        return endOfAnswer(isHigh);
    }

    public int place(int program, int fine) throws IndexOutOfBoundsException, IllegalArgumentException {
        Program asked = existing(program);
        requireWithin(fine, 0, LAST_PLACE);
        for (int place = fine; place <= LAST_PLACE; place++) {
            asked.told.load(place, answer);
            if (answer.isThere && answer.high - answer.low <= unitsAt(place - fine)) {
                return place;
            }
        }
        return NONE;
    }

    // ---- comparing

    public int compare(int program, int other, int place) throws IndexOutOfBoundsException, IllegalArgumentException {
        Program one = existing(program);
        Program another = existing(other);
        requireWithin(place, 0, LAST_PLACE);
        return compareAt(one, another, place);
    }

    public int decided(int program, int other) throws IndexOutOfBoundsException {
        Program one = existing(program);
        Program another = existing(other);
        for (int place = 0; place <= LAST_PLACE; place++) {
            if (compareAt(one, another, place) != WAITS) {
                return place;
            }
        }
        return NONE;
    }

    // ---- notations

    public int decimals(int program, int place) throws IndexOutOfBoundsException, IllegalArgumentException {
        loadTold(program, place);
        return sureDecimals(place);
    }

    public int decimal(int program, int place, int decimal)
            throws IndexOutOfBoundsException, IllegalArgumentException, IllegalStateException {
        loadTold(program, place);
        requireWithin(decimal, 0, LAST_DECIMAL);
        if (decimal > sureDecimals(place)) {
            throw new IllegalStateException("the decimal is not sure");
        }
        long digits = shifted(answer.low, decimal, place);
        return (int) (decimal == 0 ? digits : Math.floorMod(digits, 10L));
    }

    public int quotient(int program, int place, int number)
            throws IndexOutOfBoundsException, IllegalArgumentException, IllegalStateException {
        loadTold(program, place);
        requireWithin(number, 0, LAST_QUOTIENT);
        if (!answer.isThere) {
            throw new IllegalStateException("nothing is told");
        }
        lowEnd.assign(answer.low, unitsAt(place));
        highEnd.assign(answer.high, unitsAt(place));
        for (int ahead = 0; ahead < number && isQuotientSure(); ahead++) {
            lowEnd.turnOver();
            highEnd.turnOver();
        }
        if (!isQuotientSure()) {
            throw new IllegalStateException("the quotient is not sure");
        }
        return (int) lowEnd.whole();
    }

    // ---- digits

    public int next(int program) throws IndexOutOfBoundsException, IllegalStateException {
        Program asked = existing(program);
        if (asked.digits >= MOST_DIGITS) {
            throw new IllegalStateException("all digits are emitted");
        }
        for (int place = asked.digits + 1; place <= LAST_PLACE; place++) {
            int digit = digitAt(asked, place);
            if (digit != UNSURE) {
                asked.digits++;
                asked.digitSum = 2 * asked.digitSum + digit;
                return digit;
            }
        }
        throw new IllegalStateException("no digit is sure at any place");
    }

    public int emitted(int program) throws IndexOutOfBoundsException {
        return existing(program).digits;
    }

    public long partial(int program) throws IndexOutOfBoundsException {
        return existing(program).digitSum;
    }

    public int restart(int program) throws IndexOutOfBoundsException {
        Program asked = existing(program);
        int before = asked.digits;
        asked.digits = 0;
        asked.digitSum = 0;
        return before;
    }

    // ---- what there is

    public int count() {
        return made;
    }

    public int needs(int program) throws IndexOutOfBoundsException {
        return Long.bitCount(existing(program).parts);
    }

    // ---- what the calls have in common

    private static void requireWithin(int value, int least, int greatest) {
        if (value < least || value > greatest) {
            throw new IllegalArgumentException("an argument is out of its range");
        }
    }

    private void requireRoom() {
        if (made >= programs.length) {
            throw new IllegalStateException("there are 40 programs");
        }
    }

    private Program existing(int number) {
        if (number < 0 || number >= made || number >= programs.length) {
            throw new IndexOutOfBoundsException("there is no such program");
        }
        Program program = programs[number];
        if (program == null) {
            throw new IndexOutOfBoundsException("there is no such program");
        }
        return program;
    }

    private void loadTold(int number, int place) {
        Program program = existing(number);
        requireWithin(place, 0, LAST_PLACE);
        program.told.load(place, answer);
    }

    private long endOfAnswer(boolean isHigh) {
        if (!answer.isThere) {
            throw new IllegalStateException("there is no interval");
        }
        return isHigh ? answer.high : answer.low;
    }

    // ---- how programs are made

    private long ownBit() {
        return 1L << made;
    }

    private int make(Kind kind, int one, int other) {
        Program left = existing(one);
        Program right = existing(other);
        requireRoom();
        Program program = new Program(kind, one, other, left.parts | right.parts | ownBit());
        for (int place = 0; place <= LAST_PLACE; place++) {
            left.found.load(place, first);
            right.found.load(place, second);
            combine(kind, place);
            program.found.put(place, answer);
        }
        return add(program);
    }

    private int add(Program program) {
        answer.clear();
        for (int place = 0; place <= LAST_PLACE; place++) {
            program.found.load(place, first);
            answer.narrow(first);
            program.told.put(place, answer);
        }
        int number = made;
        if (number >= 0 && number < programs.length) {
            programs[number] = program;
            made++;
        }
        return number;
    }

    /** Answers what a program of the kind finds, whose parts found the first and the second. */
    private void combine(Kind kind, int place) {
        if (!first.isThere || !second.isThere) {
            answer.clear();
            return;
        }
        switch (kind) {
            case SUM:
                answer.assign(first.low + second.low, first.high + second.high);
                break;
            case DIFFERENCE:
                answer.assign(first.low - second.high, first.high - second.low);
                break;
            case PRODUCT:
                answer.multiply(first, second, place);
                break;
            case GREATER:
                answer.assign(Math.max(first.low, second.low), Math.max(first.high, second.high));
                break;
            case INVERSE:
                answer.invert(first, place);
                break;
            case ROOT:
                answer.takeRoot(first, place);
                break;
            case EXP:
                answer.takeExp(first, place);
                break;
            default:
                answer.clear();
                break;
        }
        answer.dropBeyondReach(place);
    }

    private void findZero(Polynomial polynomial, int from, int halves, int place) {
        int halved = Math.min(place, LAST_HALVED_PLACE);
        long low = from * unitsAt(halved);
        long high = low + (unitsAt(halved) << halves);
        int signAtLow = polynomial.signAt(low, halved);
        // The ends are a power of 2 apart, so each middle is a whole one, and so many steps make it 1.
        for (int step = 0; step < halved + halves && high - low > 1; step++) {
            long middle = low + (high - low) / 2;
            int sign = polynomial.signAt(middle, halved);
            if (sign == 0 || sign == signAtLow) {
                low = middle;
            }
            if (sign != signAtLow) {
                high = middle;
            }
        }
        long finer = unitsAt(place - halved);
        answer.assign(low * finer, high * finer);
    }

    // ---- what would be

    private void suppose(int number, int gone, int place) {
        Program program = existing(number);
        if (program.isMadeOf(gone)) {
            loadSupposed(program.one, gone, place, first);
            loadSupposed(program.other, gone, place, second);
            combine(program.kind, place);
            supposed.put(number, answer);
        }
    }

    private void loadSupposed(int number, int gone, int place, Interval into) {
        Program program = existing(number);
        if (program.isMadeOf(gone)) {
            supposed.load(number, into);
        } else {
            program.found.load(place, into);
        }
    }

    // ---- how what is told is read

    private int compareAt(Program one, Program other, int place) {
        one.told.load(place, first);
        other.told.load(place, second);
        if (!first.isThere || !second.isThere) {
            return WAITS;
        }
        if (first.high < second.low) {
            return LESS;
        }
        return second.high < first.low ? MORE : WAITS;
    }

    private int sureDecimals(int place) {
        int sure = NONE;
        if (!answer.isThere) {
            return sure;
        }
        for (int decimal = 0; decimal <= LAST_DECIMAL; decimal++) {
            if (shifted(answer.low, decimal, place) != shifted(answer.high, decimal, place)) {
                return sure;
            }
            sure = decimal;
        }
        return sure;
    }

    /** An end times 10 to the power of the decimal, cut to a whole number. */
    private static long shifted(long end, int decimal, int place) {
        long power = decimal >= 0 && decimal < TENS.length ? TENS[decimal] : 1;
        return cut(end * power, unitsAt(place));
    }

    private boolean isQuotientSure() {
        return lowEnd.bottom != 0 && highEnd.bottom != 0 && lowEnd.whole() == highEnd.whole();
    }

    private int digitAt(Program program, int place) {
        program.told.load(place, answer);
        if (!answer.isThere) {
            return UNSURE;
        }
        long unit = unitsAt(place - program.digits);
        long low = answer.low - program.digitSum * unit;
        long high = answer.high - program.digitSum * unit;
        if (program.digits == 0 && (low < -unit || high > unit)) {
            return UNSURE;
        }
        if (2 * low >= -unit && 2 * high <= unit) {
            return 0;
        }
        if (low >= 0) {
            return 1;
        }
        return high <= 0 ? -1 : UNSURE;
    }

    // ---- whole numbers

    private static long unitsAt(int place) {
        return 1L << place;
    }

    private static long cut(long value, long divisor) {
        return divisor == 0 ? 0 : Math.floorDiv(value, divisor);
    }

    private static long fill(long value, long divisor) {
        return divisor == 0 ? 0 : -Math.floorDiv(-value, divisor);
    }

    private static long cutRoot(long square) {
        long root = 0;
        for (int bit = HIGHEST_ROOT_BIT; bit >= 0; bit--) {
            long tried = root + (1L << bit);
            if (tried * tried <= square) {
                root = tried;
            }
        }
        return root;
    }

    private static long fillRoot(long square) {
        long root = cutRoot(square);
        return root * root < square ? root + 1 : root;
    }

    private enum Kind { RATIO, SUM, DIFFERENCE, PRODUCT, GREATER, INVERSE, ROOT, EXP, ZERO }

    private static final class Program {
        final Kind kind;
        final int one;
        final int other;
        /** A bit for each program of which it is made, and for itself. */
        final long parts;
        final Row found;
        final Row told;
        int digits;
        long digitSum;

        Program(Kind kind, int one, int other, long parts) {
            this.kind = kind;
            this.one = one;
            this.other = other;
            this.parts = parts;
            found = new Row(LAST_PLACE + 1);
            told = new Row(LAST_PLACE + 1);
            digits = 0;
            digitSum = 0;
        }

        boolean isMadeOf(int number) {
            return (parts >> number & 1) == 1;
        }
    }

    /** Intervals side by side, in arrays, as many small objects would fill the room. */
    private static final class Row {
        private final boolean[] isThere;
        private final long[] low;
        private final long[] high;

        Row(int length) {
            int size = length < 0 ? 0 : length;
            isThere = new boolean[size];
            low = new long[size];
            high = new long[size];
        }

        void put(int at, Interval interval) {
            if (at >= 0 && at < low.length) {
                isThere[at] = interval.isThere;
                low[at] = interval.low;
                high[at] = interval.high;
            }
        }

        void load(int at, Interval into) {
            into.clear();
            if (at >= 0 && at < low.length && isThere[at]) {
                into.assign(low[at], high[at]);
            }
        }
    }

    /** An interval at a place, in units of it, or none. */
    private static final class Interval {
        boolean isThere;
        long low;
        long high;

        void clear() {
            isThere = false;
            low = 0;
            high = 0;
        }

        void assign(long newLow, long newHigh) {
            isThere = true;
            low = newLow;
            high = newHigh;
        }

        void dropBeyondReach(int place) {
            long farthest = FARTHEST * unitsAt(place);
            if (low < -farthest || high > farthest) {
                clear();
            }
        }

        /** Goes on from what is left at a place to what is left at the next one. */
        void narrow(Interval found) {
            if (!isThere) {
                if (found.isThere) {
                    assign(found.low, found.high);
                }
                return;
            }
            assign(2 * low, 2 * high);
            if (found.isThere) {
                assign(Math.max(low, found.low), Math.min(high, found.high));
            }
        }

        void multiply(Interval one, Interval other, int place) {
            long lowLow = one.low * other.low;
            long lowHigh = one.low * other.high;
            long highLow = one.high * other.low;
            long highHigh = one.high * other.high;
            long least = Math.min(Math.min(lowLow, lowHigh), Math.min(highLow, highHigh));
            long greatest = Math.max(Math.max(lowLow, lowHigh), Math.max(highLow, highHigh));
            assign(cut(least, unitsAt(place)), fill(greatest, unitsAt(place)));
        }

        void invert(Interval one, int place) {
            if (one.low <= 0 && one.high >= 0) {
                clear();
                return;
            }
            long square = unitsAt(2 * place);
            assign(cut(square, one.high), fill(square, one.low));
        }

        void takeRoot(Interval one, int place) {
            long lowSquare = Math.max(one.low, 0L) * unitsAt(place);
            long highSquare = Math.max(one.high, 0L) * unitsAt(place);
            assign(cutRoot(lowSquare), fillRoot(highSquare));
        }

        void takeExp(Interval one, int place) {
            long whole = unitsAt(place);
            if (one.low < -whole || one.high > whole) {
                clear();
                return;
            }
            assign(whole, whole);
            for (int step = EXP_STEPS; step >= 1; step--) {
                multiply(one, this, place);
                assign(cut(low, step) + whole, fill(high, step) + whole);
            }
            // The terms behind the last step are less than 1 unit, even at the last place.
            assign(low - 1, high + 1);
        }
    }

    /** An end as a fraction, of which the quotients are taken one by one. */
    private static final class Fraction {
        long top;
        long bottom;

        void assign(long newTop, long newBottom) {
            top = newTop;
            bottom = newBottom;
        }

        long whole() {
            return cut(top, bottom);
        }

        void turnOver() {
            long left = top - whole() * bottom;
            top = bottom;
            bottom = left;
        }
    }

    /** a and b times x and c times x times x and d times x times x times x. */
    private static final class Polynomial {
        private final long a;
        private final long b;
        private final long c;
        private final long d;

        Polynomial(int a, int b, int c, int d) {
            this.a = a;
            this.b = b;
            this.c = c;
            this.d = d;
        }

        int signAt(long x, int place) {
            long whole = unitsAt(place);
            // All times whole to the power of 3, so that it stays among whole numbers.
            long value = ((d * x + c * whole) * x + b * whole * whole) * x + a * whole * whole * whole;
            return Long.signum(value);
        }
    }
}
