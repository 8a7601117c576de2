/** Promises 20 (next), 21 (emitted), 22 (partial) and 23 (restart). */
public final class DigitsTest {
    private static final int MIN = Integer.MIN_VALUE;
    private static final int MAX = Integer.MAX_VALUE;

    public static void main(String[] args) {
        third();
        ones();
        beyondOne();
        allOfThem();
        unsure();
        laterPlace();
        lastPlace();
        ofNone();
        apart();
        wrong();
        Check.end("DigitsTest");
    }

    private static void digits(Nestlimit x, int program, long... due) {
        for (int at = 0; at < due.length; at++) {
            Check.due("next(" + program + "), the digit " + at, due[at], () -> x.next(program));
        }
    }

    private static void state(Nestlimit x, int program, long emitted, long partial) {
        Check.due("emitted(" + program + ")", emitted, () -> x.emitted(program));
        Check.due("partial(" + program + ")", partial, () -> x.partial(program));
    }

    private static void third() {
        Nestlimit x = new Nestlimit();
        x.ratio(1, 3);
        x.ratio(-1, 3);
        state(x, 0, 0, 0);
        digits(x, 0, 0, 1, 0, 1);
        state(x, 0, 4, 5);
        digits(x, 1, 0, -1, 0, -1, 0, -1);
        state(x, 1, 6, -21);
        Check.due("restart(0)", 4, () -> x.restart(0));
        state(x, 0, 0, 0);
        state(x, 1, 6, -21);
        Check.due("restart(0) once more", 0, () -> x.restart(0));
        digits(x, 0, 0, 1);
        state(x, 0, 2, 1);
    }

    private static void ones() {
        Nestlimit x = new Nestlimit();
        x.ratio(1, 1);
        x.ratio(-1, 1);
        x.ratio(0, 1);
        x.ratio(3, 4);
        x.ratio(1, 2);
        digits(x, 0, 1, 1, 1);
        state(x, 0, 3, 7);
        digits(x, 1, -1, -1, -1);
        state(x, 1, 3, -7);
        digits(x, 2, 0, 0);
        state(x, 2, 2, 0);
        digits(x, 3, 1, 0, 1, 1);
        state(x, 3, 4, 11);
        digits(x, 4, 0, 1, 1, 1);
        state(x, 4, 4, 7);
    }

    private static void beyondOne() {
        Nestlimit x = new Nestlimit();
        x.ratio(3, 2);
        x.ratio(-1000, 999);
        x.ratio(1000, 999);
        Check.thrown("next(0), above 1", Check.STATE, () -> x.next(0));
        Check.thrown("next(1), below -1", Check.STATE, () -> x.next(1));
        Check.thrown("next(2), above 1", Check.STATE, () -> x.next(2));
        state(x, 0, 0, 0);
        state(x, 1, 0, 0);
        Check.due("restart(0)", 0, () -> x.restart(0));
    }

    private static void allOfThem() {
        Nestlimit x = new Nestlimit();
        x.ratio(1, 1);
        x.ratio(-1, 1);
        for (int at = 1; at <= 24; at++) {
            digits(x, 0, 1);
            digits(x, 1, -1);
            state(x, 0, at, (1L << at) - 1);
            state(x, 1, at, 1 - (1L << at));
        }
        Check.thrown("next(0), 24 are emitted", Check.STATE, () -> x.next(0));
        Check.thrown("next(1), 24 are emitted", Check.STATE, () -> x.next(1));
        state(x, 0, 24, 16777215);
        Check.due("restart(0)", 24, () -> x.restart(0));
        digits(x, 0, 1);
        state(x, 0, 1, 1);
        state(x, 1, 24, -16777215);
    }

    private static void unsure() {
        Nestlimit x = new Nestlimit();
        x.ratio(1, 3);
        x.difference(0, 0);
        x.sum(1, 1);
        // Always [-2, 2]: at the last place that is more than the half of 2 units, for the last digit.
        for (int at = 0; at < 23; at++) {
            digits(x, 2, 0);
        }
        Check.thrown("next(2), at the last place only", Check.STATE, () -> x.next(2));
        state(x, 2, 23, 0);
        // Always [-1, 1]: that is just the half.
        for (int at = 0; at < 24; at++) {
            digits(x, 1, 0);
        }
        Check.thrown("next(1), 24 are emitted", Check.STATE, () -> x.next(1));
        state(x, 1, 24, 0);
        unsureOnOneSide();
    }

    /** Always [-2, 1], and [-1, 2]: one end is within the half, the other is not. */
    private static void unsureOnOneSide() {
        Nestlimit x = new Nestlimit();
        x.ratio(1, 3);
        x.difference(0, 0);
        x.ratio(1, 1000);
        x.product(2, 2);
        x.product(3, 2);
        x.difference(1, 4);
        x.sum(1, 4);
        Check.told(x, 4, 24, 0, 1);
        for (int at = 0; at < 23; at++) {
            digits(x, 5, 0);
            digits(x, 6, 0);
        }
        Check.thrown("next(5), [-2, 1]", Check.STATE, () -> x.next(5));
        Check.thrown("next(6), [-1, 2]", Check.STATE, () -> x.next(6));
        state(x, 5, 23, 0);
        state(x, 6, 23, 0);
    }

    private static void laterPlace() {
        Nestlimit x = new Nestlimit();
        // 14/15: [1, 3] at 1 and [3, 5] at 2 are above 1, [6, 8] at 3 is not.
        x.ratio(1, 3);
        x.ratio(3, 5);
        x.sum(0, 1);
        digits(x, 2, 1, 1, 1, 1);
        state(x, 2, 4, 15);
        // The zero of x times x less 2, less 1: from 2/4 to 3/4 at the place 2.
        x.zero(-2, 0, 1, 0, 1, 0);
        x.ratio(-1, 1);
        x.sum(3, 4);
        digits(x, 5, 0, 1, 1, 0, 1, 0, 1);
        state(x, 5, 7, 53);
        // 1/3 less 1/2: the first place is [-1, 0], that is 0 by the half.
        x.ratio(1, 2);
        x.difference(0, 6);
        digits(x, 7, 0, 0, -1, 0);
        state(x, 7, 4, -2);
    }

    /** At the last place [0, 2] is left of 2/3 for the last digit, and [-2, 0] of -2/3. */
    private static void lastPlace() {
        Nestlimit x = new Nestlimit();
        x.ratio(1, 3);
        x.sum(0, 0);
        x.ratio(-1, 3);
        x.sum(2, 2);
        for (int at = 0; at < 23; at++) {
            x.next(1);
            x.next(3);
        }
        state(x, 1, 23, 5592405);
        state(x, 3, 23, -5592405);
        Check.told(x, 1, 24, 11184810, 11184812);
        digits(x, 1, 1);
        digits(x, 3, -1);
        state(x, 1, 24, 11184811);
        state(x, 3, 24, -11184811);
    }

    private static void ofNone() {
        Nestlimit x = new Nestlimit();
        x.ratio(65, 1);
        x.ratio(3, 2);
        x.inverse(1);
        x.ratio(1, 64);
        x.inverse(3);
        x.inverse(4);
        Check.thrown("next(0), nothing is told", Check.STATE, () -> x.next(0));
        state(x, 0, 0, 0);
        digits(x, 2, 1, 0, 1, 0);
        // Nothing is told of it at the places 0 to 5.
        digits(x, 5, 0, 0, 0, 0, 0, 0, 1, 1);
        state(x, 5, 8, 3);
    }

    private static void apart() {
        Nestlimit x = new Nestlimit();
        x.ratio(1, 1);
        x.ratio(1, 1);
        x.sum(0, 1);
        digits(x, 0, 1, 1);
        state(x, 0, 2, 3);
        state(x, 1, 0, 0);
        state(x, 2, 0, 0);
        x.ratio(1, 2);
        Check.raw(x, 0, 1, 2, 2);
        state(x, 0, 2, 3);
        Check.due("needs(2)", 3, () -> x.needs(2));
        digits(x, 1, 1);
        digits(x, 0, 1);
        state(x, 0, 3, 7);
        state(x, 1, 1, 1);
    }

    private static void wrong() {
        Nestlimit x = new Nestlimit();
        x.ratio(1, 1);
        x.next(0);
        for (int wrong : new int[] {-1, 1, 40, MIN, MAX}) {
            Check.thrown("next(" + wrong + ")", Check.INDEX, () -> x.next(wrong));
            Check.thrown("emitted(" + wrong + ")", Check.INDEX, () -> x.emitted(wrong));
            Check.thrown("partial(" + wrong + ")", Check.INDEX, () -> x.partial(wrong));
            Check.thrown("restart(" + wrong + ")", Check.INDEX, () -> x.restart(wrong));
        }
        state(x, 0, 1, 1);
        Check.due("count", 1, () -> x.count());
    }
}
