/** Promises 15 (compare) and 16 (decided). */
public final class ComparingTest {
    private static final int MIN = Integer.MIN_VALUE;
    private static final int MAX = Integer.MAX_VALUE;

    public static void main(String[] args) {
        constants();
        compare();
        touching();
        ofNone();
        late();
        wrong();
        Check.end("ComparingTest");
    }

    private static void constants() {
        Check.due("NONE", -1, () -> Nestlimit.NONE);
        Check.due("LESS", -1, () -> Nestlimit.LESS);
        Check.due("WAITS", 0, () -> Nestlimit.WAITS);
        Check.due("MORE", 1, () -> Nestlimit.MORE);
    }

    private static void compare() {
        Nestlimit x = new Nestlimit();
        x.ratio(1, 3);
        x.ratio(1, 2);
        x.ratio(-5, 1);
        x.ratio(5, 1);
        Check.due("compare(2, 3, 0)", -1, () -> x.compare(2, 3, 0));
        Check.due("compare(3, 2, 0)", 1, () -> x.compare(3, 2, 0));
        Check.due("compare(3, 3, 24)", 0, () -> x.compare(3, 3, 24));
        Check.due("compare(0, 0, 24)", 0, () -> x.compare(0, 0, 24));
        Check.due("compare(0, 1, 0)", 0, () -> x.compare(0, 1, 0));
        Check.due("compare(0, 1, 1)", 0, () -> x.compare(0, 1, 1));
        Check.due("compare(0, 1, 2)", 0, () -> x.compare(0, 1, 2));
        Check.due("compare(0, 1, 3)", -1, () -> x.compare(0, 1, 3));
        Check.due("compare(1, 0, 3)", 1, () -> x.compare(1, 0, 3));
        Check.due("decided(0, 1)", 3, () -> x.decided(0, 1));
        Check.due("decided(1, 0)", 3, () -> x.decided(1, 0));
        Check.due("decided(2, 3)", 0, () -> x.decided(2, 3));
        Check.due("decided(3, 2)", 0, () -> x.decided(3, 2));
        Check.due("decided(0, 0)", -1, () -> x.decided(0, 0));
    }

    private static void touching() {
        Nestlimit x = new Nestlimit();
        x.ratio(1, 3);
        x.ratio(4, 3);
        x.ratio(1, 1);
        Check.due("[0, 1] and [1, 2]", 0, () -> x.compare(0, 1, 0));
        Check.due("[1, 2] and [0, 1]", 0, () -> x.compare(1, 0, 0));
        Check.due("[1, 1] and [1, 2]", 0, () -> x.compare(2, 1, 0));
        Check.due("[0, 1] and [2, 3]", -1, () -> x.compare(0, 1, 1));
        Check.due("decided(1, 0)", 1, () -> x.decided(1, 0));
        Check.due("decided(2, 0)", 1, () -> x.decided(2, 0));
        Check.due("decided(2, 1)", 2, () -> x.decided(2, 1));
    }

    private static void ofNone() {
        Nestlimit x = new Nestlimit();
        x.ratio(65, 1);
        x.ratio(1, 1);
        x.ratio(2, 7);
        x.inverse(2);
        Check.due("compare(0, 1, 24)", 0, () -> x.compare(0, 1, 24));
        Check.due("compare(1, 0, 24)", 0, () -> x.compare(1, 0, 24));
        Check.due("compare(0, 0, 24)", 0, () -> x.compare(0, 0, 24));
        Check.due("decided(0, 1)", -1, () -> x.decided(0, 1));
        Check.due("decided(1, 0)", -1, () -> x.decided(1, 0));
        Check.due("compare(3, 1, 1), nothing told yet", 0, () -> x.compare(3, 1, 1));
        Check.due("compare(3, 1, 2)", 1, () -> x.compare(3, 1, 2));
        Check.due("decided(3, 1)", 2, () -> x.decided(3, 1));
        Check.due("decided(1, 3)", 2, () -> x.decided(1, 3));
    }

    private static void late() {
        Nestlimit x = new Nestlimit();
        x.ratio(999, 1000);
        x.ratio(998, 999);
        x.ratio(2, 1);
        x.root(2);
        x.zero(-2, 0, 1, 0, 1, 0);
        Check.due("compare(0, 1, 24)", 1, () -> x.compare(0, 1, 24));
        Check.due("decided(0, 1)", 21, () -> x.decided(0, 1));
        Check.due("compare(0, 1, 20)", 0, () -> x.compare(0, 1, 20));
        Check.due("compare(1, 0, 21)", -1, () -> x.compare(1, 0, 21));
        Check.due("decided(3, 4), the same number", -1, () -> x.decided(3, 4));
        x.ratio(1, 999);
        x.ratio(15, 29);
        x.product(5, 6);
        x.ratio(1, 1000);
        x.ratio(518, 1000);
        x.product(8, 9);
        Check.due("compare(7, 10, 23)", 0, () -> x.compare(7, 10, 23));
        Check.due("compare(7, 10, 24)", -1, () -> x.compare(7, 10, 24));
        Check.due("decided(7, 10), at the last place", 24, () -> x.decided(7, 10));
    }

    private static void wrong() {
        Nestlimit x = new Nestlimit();
        x.ratio(1, 2);
        for (int wrong : new int[] {-1, 1, 40, MIN, MAX}) {
            Check.thrown("compare(" + wrong + ", 0, 0)", Check.INDEX, () -> x.compare(wrong, 0, 0));
            Check.thrown("compare(0, " + wrong + ", 0)", Check.INDEX, () -> x.compare(0, wrong, 0));
            Check.thrown("compare(" + wrong + ", 0, 25)", Check.INDEX, () -> x.compare(wrong, 0, 25));
            Check.thrown("compare(0, " + wrong + ", -1)", Check.INDEX, () -> x.compare(0, wrong, -1));
            Check.thrown("decided(" + wrong + ", 0)", Check.INDEX, () -> x.decided(wrong, 0));
            Check.thrown("decided(0, " + wrong + ")", Check.INDEX, () -> x.decided(0, wrong));
        }
        for (int wrong : new int[] {-1, 25, MIN, MAX}) {
            Check.thrown("compare(0, 0, " + wrong + ")", Check.ARGUMENT, () -> x.compare(0, 0, wrong));
        }
        Check.due("count", 1, () -> x.count());
    }
}
