/** Promises 11 (raw), 12 (told), 13 (instead) and 14 (place). */
public final class IntervalsTest {
    private static final int MIN = Integer.MIN_VALUE;
    private static final int MAX = Integer.MAX_VALUE;

    public static void main(String[] args) {
        rawAndTold();
        wrongRawAndTold();
        instead();
        insteadOfNone();
        wrongInstead();
        insteadChangesNothing();
        place();
        wrongPlace();
        Check.end("IntervalsTest");
    }

    private static void rawAndTold() {
        Nestlimit x = new Nestlimit();
        x.ratio(1, 3);
        x.ratio(-1, 3);
        x.sum(0, 1);
        x.inverse(0);
        Check.raw(x, 0, 0, 0, 1);
        Check.told(x, 0, 0, 0, 1);
        Check.raw(x, 0, 4, 5, 6);
        Check.told(x, 0, 4, 5, 6);
        Check.raw(x, 0, 24, 5592405, 5592406);
        Check.told(x, 0, 24, 5592405, 5592406);
        Check.told(x, 1, 4, -6, -5);
        Check.told(x, 2, 0, -1, 1);
        Check.told(x, 2, 24, -1, 1);
        Check.noTold(x, 3, 0);
        Check.noTold(x, 3, 1);
        Check.told(x, 3, 2, 8, 16);
        Check.told(x, 3, 6, 186, 196);
        // What is found at places between shows that all of them are kept apart.
        for (int place = 0; place <= 24; place++) {
            long units = 1L << place;
            Check.raw(x, 0, place, units / 3, units / 3 + 1);
            Check.told(x, 0, place, units / 3, units / 3 + 1);
        }
    }

    private static void wrongRawAndTold() {
        Nestlimit x = new Nestlimit();
        x.ratio(0, 1);
        x.inverse(0);
        for (int wrong : new int[] {-1, 2, 40, MIN, MAX}) {
            Check.thrown("raw(" + wrong + ", 0, false)", Check.INDEX, () -> x.raw(wrong, 0, false));
            Check.thrown("raw(" + wrong + ", 25, true)", Check.INDEX, () -> x.raw(wrong, 25, true));
            Check.thrown("told(" + wrong + ", 0, false)", Check.INDEX, () -> x.told(wrong, 0, false));
            Check.thrown("told(" + wrong + ", -1, true)", Check.INDEX, () -> x.told(wrong, -1, true));
        }
        for (int wrong : new int[] {-1, 25, MIN, MAX}) {
            Check.thrown("raw(0, " + wrong + ", true)", Check.ARGUMENT, () -> x.raw(0, wrong, true));
            Check.thrown("raw(1, " + wrong + ", false)", Check.ARGUMENT, () -> x.raw(1, wrong, false));
            Check.thrown("told(0, " + wrong + ", true)", Check.ARGUMENT, () -> x.told(0, wrong, true));
            Check.thrown("told(1, " + wrong + ", false)", Check.ARGUMENT, () -> x.told(1, wrong, false));
        }
        Check.noRaw(x, 1, 0);
        Check.noTold(x, 1, 24);
        Check.due("count", 2, () -> x.count());
    }

    private static void instead() {
        Nestlimit x = new Nestlimit();
        x.ratio(1, 3);
        x.ratio(5, 2);
        x.sum(0, 1);
        x.product(2, 0);
        x.difference(3, 2);
        x.ratio(-4, 1);
        // The sum is [5, 6] and [40, 40] at the place 4; of the product both parts change with 0.
        Check.instead(x, 2, 0, 1, 4, 80, 80);
        Check.instead(x, 2, 1, 0, 4, 10, 12);
        Check.instead(x, 3, 0, 1, 4, 200, 200);
        Check.instead(x, 3, 2, 5, 4, -24, -20);
        Check.instead(x, 4, 0, 5, 4, 120, 120);
        Check.instead(x, 4, 2, 1, 4, -28, -25);
        // One with a higher number, and one that is made of the one that is replaced.
        Check.instead(x, 0, 0, 4, 0, -4, 2);
        Check.instead(x, 2, 0, 2, 4, 85, 86);
        Check.instead(x, 3, 0, 3, 4, 47, 66);
        // That one itself, the same in its own place, and one of which it is not made.
        Check.instead(x, 3, 3, 5, 4, -64, -64);
        Check.instead(x, 2, 2, 2, 4, 45, 46);
        Check.instead(x, 2, 0, 0, 4, 45, 46);
        Check.instead(x, 2, 5, 0, 4, 45, 46);
        Check.instead(x, 2, 3, 5, 4, 45, 46);
        Check.instead(x, 0, 5, 1, 24, 5592405, 5592406);
        Check.instead(x, 2, 0, 1, 0, 4, 6);
        Check.instead(x, 2, 0, 1, 24, 83886080, 83886080);
    }

    private static void insteadOfNone() {
        Nestlimit x = new Nestlimit();
        x.ratio(1, 1);
        x.ratio(64, 1);
        x.sum(1, 0);
        x.inverse(0);
        x.ratio(0, 1);
        x.inverse(4);
        x.greater(5, 0);
        Check.noInstead(x, 2, 3, 0, 4);
        Check.instead(x, 2, 1, 0, 4, 32, 32);
        Check.noInstead(x, 3, 0, 2, 4);
        Check.noInstead(x, 3, 0, 4, 4);
        Check.noInstead(x, 3, 3, 5, 4);
        Check.instead(x, 5, 4, 0, 4, 16, 16);
        Check.instead(x, 5, 5, 1, 4, 1024, 1024);
        Check.instead(x, 6, 4, 1, 4, 16, 16);
        Check.instead(x, 6, 5, 1, 4, 1024, 1024);
        Check.noInstead(x, 6, 0, 1, 4);
        Check.noInstead(x, 6, 5, 5, 4);
        Check.instead(x, 0, 4, 5, 4, 16, 16);
        // The exponential of 0, if that was 1, 32 (above 1) or none.
        x.exp(4);
        x.ratio(32, 1);
        Check.instead(x, 7, 4, 0, 0, 1, 4);
        Check.noInstead(x, 7, 4, 8, 0);
        Check.noInstead(x, 7, 4, 8, 24);
        Check.noInstead(x, 7, 4, 5, 4);
    }

    private static void wrongInstead() {
        Nestlimit x = new Nestlimit();
        x.ratio(0, 1);
        x.inverse(0);
        for (int wrong : new int[] {-1, 2, 40, MIN, MAX}) {
            Check.thrown("instead of " + wrong, Check.INDEX, () -> x.instead(wrong, 0, 0, 0, true));
            Check.thrown("instead, gone " + wrong, Check.INDEX, () -> x.instead(0, wrong, 0, 0, true));
            Check.thrown("instead, other " + wrong, Check.INDEX, () -> x.instead(0, 0, wrong, 0, true));
            Check.thrown("instead of " + wrong + " at 25", Check.INDEX, () -> x.instead(wrong, 0, 0, 25, true));
            Check.thrown("instead, gone " + wrong + " at 25", Check.INDEX, () -> x.instead(0, wrong, 0, 25, true));
            Check.thrown("instead, other " + wrong + " at -1", Check.INDEX, () -> x.instead(0, 0, wrong, -1, true));
        }
        for (int wrong : new int[] {-1, 25, MIN, MAX}) {
            Check.thrown("instead at " + wrong, Check.ARGUMENT, () -> x.instead(0, 0, 0, wrong, true));
            Check.thrown("instead of none at " + wrong, Check.ARGUMENT, () -> x.instead(1, 0, 0, wrong, true));
        }
        Check.noInstead(x, 1, 0, 0, 24);
    }

    private static void insteadChangesNothing() {
        Nestlimit x = new Nestlimit();
        x.ratio(1, 3);
        x.ratio(1, 2);
        x.sum(0, 0);
        x.next(0);
        Check.instead(x, 2, 0, 1, 3, 8, 8);
        Check.noInstead(x, 2, 0, x.ratio(65, 1), 3);
        Check.raw(x, 2, 3, 4, 6);
        Check.told(x, 2, 3, 4, 6);
        Check.raw(x, 0, 3, 2, 3);
        Check.told(x, 0, 3, 2, 3);
        Check.due("needs(2)", 2, () -> x.needs(2));
        Check.due("emitted(0)", 1, () -> x.emitted(0));
        Check.due("emitted(2)", 0, () -> x.emitted(2));
        Check.due("count", 4, () -> x.count());
        x.sum(2, 1);
        Check.raw(x, 4, 3, 8, 10);
    }

    private static void place() {
        Nestlimit x = new Nestlimit();
        x.ratio(1, 3);
        x.ratio(64, 1);
        x.sum(0, 0);
        x.inverse(0);
        x.zero(-2, 0, 1, 0, 1, 0);
        x.ratio(0, 1);
        x.inverse(5);
        Check.due("place(0, 0)", 0, () -> x.place(0, 0));
        Check.due("place(0, 5)", 5, () -> x.place(0, 5));
        Check.due("place(0, 24)", 24, () -> x.place(0, 24));
        Check.due("place(1, 24), both ends alike", 24, () -> x.place(1, 24));
        Check.due("place(1, 0)", 0, () -> x.place(1, 0));
        Check.due("place(2, 0), twice as wide", 1, () -> x.place(2, 0));
        Check.due("place(2, 23)", 24, () -> x.place(2, 23));
        Check.due("place(2, 24)", -1, () -> x.place(2, 24));
        Check.due("place(3, 0), nothing told at 0 and 1, 8 wide at 2, 11 at 3, 10 at 4", 4, () -> x.place(3, 0));
        Check.due("place(4, 16)", 16, () -> x.place(4, 16));
        Check.due("place(4, 17), no finer behind 16", -1, () -> x.place(4, 17));
        Check.due("place(6, 0), nothing told", -1, () -> x.place(6, 0));
    }

    private static void wrongPlace() {
        Nestlimit x = new Nestlimit();
        x.ratio(1, 3);
        for (int wrong : new int[] {-1, 1, 40, MIN, MAX}) {
            Check.thrown("place(" + wrong + ", 0)", Check.INDEX, () -> x.place(wrong, 0));
            Check.thrown("place(" + wrong + ", 25)", Check.INDEX, () -> x.place(wrong, 25));
        }
        for (int wrong : new int[] {-1, 25, MIN, MAX}) {
            Check.thrown("place(0, " + wrong + ")", Check.ARGUMENT, () -> x.place(0, wrong));
        }
        Check.due("place(0, 1)", 1, () -> x.place(0, 1));
    }
}
