/** Promises 1 to 10 (making), 24 (count) and 25 (needs). */
public final class MakingTest {
    private static final int MIN = Integer.MIN_VALUE;
    private static final int MAX = Integer.MAX_VALUE;

    public static void main(String[] args) {
        newObject();
        ratio();
        ratioBeyond64();
        sum();
        difference();
        product();
        greater();
        inverse();
        root();
        exp();
        zero();
        zeroAtPlaces();
        zeroRanges();
        wrongParts();
        full();
        needs();
        needsOfAll();
        Check.end("MakingTest");
    }

    private static void newObject() {
        Nestlimit x = new Nestlimit();
        Check.due("new: count", 0, () -> x.count());
        Check.thrown("new: needs(0)", Check.INDEX, () -> x.needs(0));
        Check.thrown("new: emitted(0)", Check.INDEX, () -> x.emitted(0));
        Check.thrown("new: sum(0, 0)", Check.INDEX, () -> x.sum(0, 0));
        Nestlimit y = new Nestlimit();
        y.ratio(1, 2);
        Check.due("another object is another one: count", 0, () -> x.count());
        Check.due("another object is another one: count of that", 1, () -> y.count());
    }

    private static void ratio() {
        Nestlimit x = new Nestlimit();
        Check.due("ratio(-7, 3)", 0, () -> x.ratio(-7, 3));
        Check.raw(x, 0, 0, -3, -2);
        Check.raw(x, 0, 1, -5, -4);
        Check.raw(x, 0, 24, -39146838, -39146837);
        Check.due("ratio(6, 3)", 1, () -> x.ratio(6, 3));
        Check.raw(x, 1, 0, 2, 2);
        Check.raw(x, 1, 3, 16, 16);
        Check.due("ratio(0, 7)", 2, () -> x.ratio(0, 7));
        Check.raw(x, 2, 24, 0, 0);
        Check.due("ratio(1, 1000)", 3, () -> x.ratio(1, 1000));
        Check.raw(x, 3, 9, 0, 1);
        Check.raw(x, 3, 10, 1, 2);
        Check.thrown("ratio(-1001, 1)", Check.ARGUMENT, () -> x.ratio(-1001, 1));
        Check.thrown("ratio(1001, 1)", Check.ARGUMENT, () -> x.ratio(1001, 1));
        Check.thrown("ratio(1, 0)", Check.ARGUMENT, () -> x.ratio(1, 0));
        Check.thrown("ratio(1, -1)", Check.ARGUMENT, () -> x.ratio(1, -1));
        Check.thrown("ratio(1, 1001)", Check.ARGUMENT, () -> x.ratio(1, 1001));
        Check.thrown("ratio(MIN, MAX)", Check.ARGUMENT, () -> x.ratio(MIN, MAX));
        Check.thrown("ratio(MAX, MIN)", Check.ARGUMENT, () -> x.ratio(MAX, MIN));
        Check.due("wrong ratios make nothing: count", 4, () -> x.count());
        Check.due("ratio(-1000, 1)", 4, () -> x.ratio(-1000, 1));
        Check.noRaw(x, 4, 0);
        Check.due("ratio(1000, 1000)", 5, () -> x.ratio(1000, 1000));
        Check.raw(x, 5, 1, 2, 2);
        Check.due("ratio(1000, 999)", 6, () -> x.ratio(1000, 999));
        Check.raw(x, 6, 0, 1, 2);
    }

    private static void ratioBeyond64() {
        Nestlimit x = new Nestlimit();
        x.ratio(64, 1);
        x.ratio(-64, 1);
        x.ratio(641, 10);
        x.ratio(-641, 10);
        x.ratio(639, 10);
        x.ratio(-639, 10);
        Check.raw(x, 0, 0, 64, 64);
        Check.raw(x, 0, 24, 1073741824L, 1073741824L);
        Check.raw(x, 1, 0, -64, -64);
        Check.raw(x, 1, 24, -1073741824L, -1073741824L);
        Check.noRaw(x, 2, 0);
        Check.noRaw(x, 2, 24);
        Check.noRaw(x, 3, 0);
        Check.noRaw(x, 3, 24);
        Check.raw(x, 4, 0, 63, 64);
        Check.raw(x, 5, 0, -64, -63);
    }

    private static void sum() {
        Nestlimit x = new Nestlimit();
        x.ratio(1, 3);
        x.ratio(-7, 2);
        Check.due("sum(0, 1)", 2, () -> x.sum(0, 1));
        Check.raw(x, 2, 0, -4, -2);
        Check.raw(x, 2, 2, -13, -12);
        Check.due("sum(0, 0)", 3, () -> x.sum(0, 0));
        Check.raw(x, 3, 2, 2, 4);
        x.ratio(32, 1);
        x.ratio(65, 2);
        Check.due("sum(4, 4)", 6, () -> x.sum(4, 4));
        Check.raw(x, 6, 0, 64, 64);
        Check.due("sum(4, 5)", 7, () -> x.sum(4, 5));
        Check.noRaw(x, 7, 0);
        Check.noRaw(x, 7, 24);
        Check.due("sum(7, 0), of one that finds none", 8, () -> x.sum(7, 0));
        Check.noRaw(x, 8, 24);
        Check.due("sum(0, 7), of one that finds none", 9, () -> x.sum(0, 7));
        Check.noRaw(x, 9, 24);
    }

    private static void difference() {
        Nestlimit x = new Nestlimit();
        x.ratio(1, 3);
        x.ratio(-7, 2);
        Check.due("difference(0, 1)", 2, () -> x.difference(0, 1));
        Check.raw(x, 2, 0, 3, 5);
        Check.raw(x, 2, 2, 15, 16);
        Check.due("difference(1, 0)", 3, () -> x.difference(1, 0));
        Check.raw(x, 3, 2, -16, -15);
        Check.due("difference(0, 0)", 4, () -> x.difference(0, 0));
        Check.raw(x, 4, 0, -1, 1);
        Check.raw(x, 4, 24, -1, 1);
        x.ratio(64, 1);
        Check.due("difference(1, 5)", 6, () -> x.difference(1, 5));
        Check.noRaw(x, 6, 9);
        Check.due("difference(5, 5)", 7, () -> x.difference(5, 5));
        Check.raw(x, 7, 9, 0, 0);
    }

    private static void product() {
        Nestlimit x = new Nestlimit();
        x.ratio(1, 3);
        x.ratio(-1, 3);
        x.difference(0, 0);
        x.ratio(5, 1);
        Check.due("product(0, 1)", 4, () -> x.product(0, 1));
        Check.raw(x, 4, 0, -1, 0);
        Check.raw(x, 4, 8, -29, -28);
        Check.due("product(1, 1)", 5, () -> x.product(1, 1));
        Check.raw(x, 5, 3, 0, 2);
        Check.raw(x, 5, 8, 28, 29);
        Check.due("product(2, 3)", 6, () -> x.product(2, 3));
        Check.raw(x, 6, 2, -5, 5);
        Check.due("product(2, 2)", 7, () -> x.product(2, 2));
        Check.raw(x, 7, 2, -1, 1);
        Check.due("product(2, 1)", 8, () -> x.product(2, 1));
        Check.raw(x, 8, 0, -1, 1);
        // [-1, 1] by [2, 3], and by [-3, -2], both ways round: each of the four products is an end once.
        x.ratio(7, 3);
        x.ratio(-7, 3);
        Check.due("product(2, 9)", 11, () -> x.product(2, 9));
        Check.raw(x, 11, 0, -3, 3);
        Check.due("product(9, 2)", 12, () -> x.product(9, 2));
        Check.raw(x, 12, 0, -3, 3);
        Check.due("product(2, 10)", 13, () -> x.product(2, 10));
        Check.raw(x, 13, 0, -3, 3);
        Check.due("product(10, 2)", 14, () -> x.product(10, 2));
        Check.raw(x, 14, 0, -3, 3);
        x.ratio(8, 1);
        x.ratio(-8, 1);
        x.ratio(81, 10);
        Check.due("product(15, 16)", 18, () -> x.product(15, 16));
        Check.raw(x, 18, 24, -1073741824L, -1073741824L);
        Check.due("product(16, 17)", 19, () -> x.product(16, 17));
        Check.noRaw(x, 19, 24);
    }

    private static void greater() {
        Nestlimit x = new Nestlimit();
        x.ratio(1, 3);
        x.ratio(1, 2);
        x.ratio(65, 1);
        Check.due("greater(0, 1)", 3, () -> x.greater(0, 1));
        Check.raw(x, 3, 0, 0, 1);
        Check.raw(x, 3, 1, 1, 1);
        Check.raw(x, 3, 2, 2, 2);
        x.difference(0, 0);
        Check.due("greater(4, 0), an end of each", 5, () -> x.greater(4, 0));
        Check.raw(x, 5, 0, 0, 1);
        x.difference(1, 1);
        x.difference(0, 1);
        Check.due("greater(6, 7)", 8, () -> x.greater(6, 7));
        Check.raw(x, 8, 1, 0, 0);
        Check.raw(x, 8, 24, 0, 0);
        Check.due("greater(0, 2), of one that finds none", 9, () -> x.greater(0, 2));
        Check.noRaw(x, 9, 24);
        Check.due("greater(2, 0), of one that finds none", 10, () -> x.greater(2, 0));
        Check.noRaw(x, 10, 24);
        x.ratio(5, 1);
        x.product(4, 11);
        Check.raw(x, 12, 2, -5, 5);
        Check.due("greater(12, 1), the low end of one, the high end of the other", 13, () -> x.greater(12, 1));
        Check.raw(x, 13, 2, 2, 5);
        Check.due("greater(1, 12)", 14, () -> x.greater(1, 12));
        Check.raw(x, 14, 2, 2, 5);
    }

    private static void inverse() {
        Nestlimit x = new Nestlimit();
        x.ratio(1, 3);
        x.ratio(-1, 3);
        x.ratio(3, 2);
        x.ratio(-3, 2);
        Check.due("inverse(0)", 4, () -> x.inverse(0));
        Check.noRaw(x, 4, 0);
        Check.noRaw(x, 4, 1);
        Check.raw(x, 4, 2, 8, 16);
        Check.due("inverse(1)", 5, () -> x.inverse(1));
        Check.noRaw(x, 5, 0);
        Check.raw(x, 5, 2, -16, -8);
        Check.due("inverse(2)", 6, () -> x.inverse(2));
        Check.raw(x, 6, 1, 1, 2);
        Check.due("inverse(3)", 7, () -> x.inverse(3));
        Check.raw(x, 7, 1, -2, -1);
        x.difference(0, 0);
        Check.due("inverse(8), 0 is between both", 9, () -> x.inverse(8));
        Check.noRaw(x, 9, 24);
        x.ratio(0, 1);
        Check.due("inverse(10), both are 0", 11, () -> x.inverse(10));
        Check.noRaw(x, 11, 24);
        x.ratio(1, 64);
        x.ratio(-1, 65);
        Check.due("inverse(12)", 14, () -> x.inverse(12));
        Check.noRaw(x, 14, 5);
        Check.raw(x, 14, 6, 4096, 4096);
        Check.due("inverse(13)", 15, () -> x.inverse(13));
        Check.noRaw(x, 15, 6);
        Check.noRaw(x, 15, 7);
        Check.noRaw(x, 15, 24);
        Check.due("inverse(14)", 16, () -> x.inverse(14));
        Check.noRaw(x, 16, 5);
        Check.raw(x, 16, 24, 262144, 262144);
    }

    private static void root() {
        Nestlimit x = new Nestlimit();
        x.ratio(2, 1);
        x.ratio(-5, 1);
        x.ratio(9, 4);
        x.difference(2, 2);
        x.ratio(1, 3);
        x.difference(4, 4);
        Check.due("root(0)", 6, () -> x.root(0));
        Check.raw(x, 6, 0, 1, 2);
        Check.raw(x, 6, 24, 23726566, 23726567);
        Check.due("root(1), below 0", 7, () -> x.root(1));
        Check.raw(x, 7, 0, 0, 0);
        Check.raw(x, 7, 24, 0, 0);
        Check.due("root(2)", 8, () -> x.root(2));
        Check.raw(x, 8, 1, 2, 4);
        Check.raw(x, 8, 2, 6, 6);
        Check.due("root(5), an end below 0", 9, () -> x.root(5));
        Check.raw(x, 9, 2, 0, 2);
        Check.raw(x, 9, 3, 0, 3);
        x.ratio(64, 1);
        Check.due("root(10)", 11, () -> x.root(10));
        Check.raw(x, 11, 24, 134217728, 134217728);
        x.ratio(65, 1);
        Check.due("root(12), of one that finds none", 13, () -> x.root(12));
        Check.noRaw(x, 13, 24);
    }

    private static void exp() {
        Nestlimit x = new Nestlimit();
        x.ratio(0, 1);
        x.ratio(1, 1);
        x.ratio(-1, 1);
        x.ratio(1000, 999);
        x.ratio(-1000, 999);
        x.ratio(1, 2);
        Check.due("exp(0)", 6, () -> x.exp(0));
        Check.raw(x, 6, 0, 0, 2);
        Check.raw(x, 6, 24, 16777215, 16777217);
        Check.due("exp(1)", 7, () -> x.exp(1));
        Check.raw(x, 7, 0, 1, 4);
        Check.raw(x, 7, 1, 4, 7);
        Check.raw(x, 7, 24, 45605200, 45605203);
        Check.due("exp(2)", 8, () -> x.exp(2));
        Check.raw(x, 8, 0, -1, 2);
        Check.raw(x, 8, 24, 6171991, 6171994);
        Check.due("exp(3), above 1", 9, () -> x.exp(3));
        Check.noRaw(x, 9, 0);
        Check.noRaw(x, 9, 24);
        Check.due("exp(4), below -1", 10, () -> x.exp(4));
        Check.noRaw(x, 10, 0);
        Check.noRaw(x, 10, 24);
        Check.due("exp(5)", 11, () -> x.exp(5));
        Check.raw(x, 11, 0, 0, 4);
        Check.raw(x, 11, 24, 27660951, 27660954);
        x.ratio(8, 9);
        x.ratio(83, 99);
        Check.due("exp(12), other from 11 steps", 14, () -> x.exp(12));
        Check.raw(x, 14, 24, 40809323, 40809330);
        Check.due("exp(13), other from 13 steps", 15, () -> x.exp(13));
        Check.raw(x, 15, 24, 38799428, 38799434);
    }

    private static void zero() {
        Nestlimit x = new Nestlimit();
        Check.due("zero(-2, 0, 1, 0, 0, 1)", 0, () -> x.zero(-2, 0, 1, 0, 0, 1));
        Check.raw(x, 0, 0, 1, 2);
        Check.raw(x, 0, 1, 2, 3);
        Check.due("the sign at the low end above 0", 1, () -> x.zero(2, 0, -1, 0, 0, 2));
        Check.raw(x, 1, 0, 1, 2);
        Check.raw(x, 1, 3, 11, 12);
        Check.due("one below 0", 2, () -> x.zero(-2, 0, 1, 0, -2, 0));
        Check.raw(x, 2, 0, -2, -1);
        Check.raw(x, 2, 1, -3, -2);
        Check.due("the third power: the root of 9", 3, () -> x.zero(-9, 0, 0, 1, -1, 2));
        Check.raw(x, 3, 16, 136320, 136321);
        Check.due("the middle itself", 4, () -> x.zero(-1, 2, 0, 0, 0, 0));
        Check.raw(x, 4, 0, 0, 1);
        Check.raw(x, 4, 1, 1, 1);
        Check.raw(x, 4, 24, 8388608, 8388608);
        Check.due("three zeros, the middle one", 5, () -> x.zero(0, -1, 0, 1, -2, 2));
        Check.raw(x, 5, 0, 0, 0);
        Check.due("three zeros, the lowest one", 6, () -> x.zero(1, -3, 0, 1, -2, 2));
        Check.raw(x, 6, 0, -2, -1);
        Check.thrown("both above 0", Check.STATE, () -> x.zero(1, 0, 1, 0, 0, 0));
        Check.thrown("both below 0", Check.STATE, () -> x.zero(-1, 0, -1, 0, 0, 0));
        Check.thrown("0 at the low end", Check.STATE, () -> x.zero(0, 1, 0, 0, 0, 0));
        Check.thrown("0 at the high end", Check.STATE, () -> x.zero(-1, 1, 0, 0, 0, 0));
        Check.thrown("0 at the high end, from below 0", Check.STATE, () -> x.zero(0, 1, 0, 0, -4, 2));
        Check.thrown("0 all over", Check.STATE, () -> x.zero(0, 0, 0, 0, 0, 0));
        Check.due("wrong zeros make nothing: count", 7, () -> x.count());
    }

    private static void zeroAtPlaces() {
        Nestlimit x = new Nestlimit();
        x.zero(-2, 0, 1, 0, 1, 0);
        Check.raw(x, 0, 15, 46340, 46341);
        Check.raw(x, 0, 16, 92681, 92682);
        Check.raw(x, 0, 17, 185362, 185364);
        Check.raw(x, 0, 24, 23726336, 23726592);
        Check.due("the farthest zero, from 3", 1, () -> x.zero(-9, -9, -9, 2, 3, 2));
        Check.raw(x, 1, 0, 5, 6);
        Check.raw(x, 1, 16, 358648, 358649);
        Check.due("the lowest one, from -4", 2, () -> x.zero(9, -9, 9, 3, -4, 0));
        Check.raw(x, 2, 0, -4, -3);
        Check.raw(x, 2, 16, -258958, -258957);
    }

    private static void zeroRanges() {
        Nestlimit x = new Nestlimit();
        Check.thrown("a 10", Check.ARGUMENT, () -> x.zero(10, 0, -1, 0, 3, 2));
        Check.thrown("a -10", Check.ARGUMENT, () -> x.zero(-10, 0, 1, 0, 3, 2));
        Check.thrown("b 10", Check.ARGUMENT, () -> x.zero(-5, 10, 0, 0, 0, 0));
        Check.thrown("b -10", Check.ARGUMENT, () -> x.zero(5, -10, 0, 0, 0, 0));
        Check.thrown("c 10", Check.ARGUMENT, () -> x.zero(-5, 0, 10, 0, 0, 0));
        Check.thrown("c -10", Check.ARGUMENT, () -> x.zero(5, 0, -10, 0, 0, 0));
        Check.thrown("d 10", Check.ARGUMENT, () -> x.zero(-5, 0, 0, 10, 0, 0));
        Check.thrown("d -10", Check.ARGUMENT, () -> x.zero(5, 0, 0, -10, 0, 0));
        Check.thrown("from -5", Check.ARGUMENT, () -> x.zero(9, 2, 0, 0, -5, 0));
        Check.thrown("from 4", Check.ARGUMENT, () -> x.zero(-9, 2, 0, 0, 4, 0));
        Check.thrown("halves -1", Check.ARGUMENT, () -> x.zero(-1, 2, 0, 0, 0, -1));
        Check.thrown("halves 3", Check.ARGUMENT, () -> x.zero(-1, 2, 0, 0, 0, 3));
        Check.thrown("halves 32", Check.ARGUMENT, () -> x.zero(-1, 2, 0, 0, 0, 32));
        Check.thrown("all far off", Check.ARGUMENT, () -> x.zero(MIN, MAX, MIN, MAX, MIN, MAX));
        Check.thrown("out of range is first, like signs or not", Check.ARGUMENT, () -> x.zero(1, 0, 0, 0, 0, 3));
        Check.due("zeros out of range make nothing: count", 0, () -> x.count());
        Check.due("the ends of the ranges", 0, () -> x.zero(9, 9, 9, -9, 0, 2));
        Check.due("the other ends of the ranges", 1, () -> x.zero(-9, -9, -9, 9, 0, 2));
        Check.due("from -4", 2, () -> x.zero(7, 2, 0, 0, -4, 0));
        Check.due("from 3", 3, () -> x.zero(-7, 2, 0, 0, 3, 0));
        Check.raw(x, 3, 1, 7, 7);
    }

    private static void wrongParts() {
        Nestlimit x = new Nestlimit();
        x.ratio(1, 2);
        x.ratio(1, 3);
        for (int wrong : new int[] {-1, 2, 40, MIN, MAX}) {
            String name = "(" + wrong + ")";
            Check.thrown("sum one " + name, Check.INDEX, () -> x.sum(wrong, 0));
            Check.thrown("sum other " + name, Check.INDEX, () -> x.sum(0, wrong));
            Check.thrown("difference one " + name, Check.INDEX, () -> x.difference(wrong, 0));
            Check.thrown("difference other " + name, Check.INDEX, () -> x.difference(0, wrong));
            Check.thrown("product one " + name, Check.INDEX, () -> x.product(wrong, 0));
            Check.thrown("product other " + name, Check.INDEX, () -> x.product(0, wrong));
            Check.thrown("greater one " + name, Check.INDEX, () -> x.greater(wrong, 0));
            Check.thrown("greater other " + name, Check.INDEX, () -> x.greater(0, wrong));
            Check.thrown("inverse " + name, Check.INDEX, () -> x.inverse(wrong));
            Check.thrown("root " + name, Check.INDEX, () -> x.root(wrong));
            Check.thrown("exp " + name, Check.INDEX, () -> x.exp(wrong));
        }
        Check.due("wrong parts make nothing: count", 2, () -> x.count());
        Check.due("the next number is the next one", 2, () -> x.sum(0, 1));
    }

    private static void full() {
        Nestlimit x = new Nestlimit();
        x.ratio(1, 2);
        for (int number = 1; number < 40; number++) {
            int due = number;
            Check.due("making the number " + due, due, () -> x.root(due - 1));
            Check.due("count", due + 1, () -> x.count());
        }
        Check.thrown("full: ratio", Check.STATE, () -> x.ratio(1, 2));
        Check.thrown("full: sum", Check.STATE, () -> x.sum(0, 39));
        Check.thrown("full: difference", Check.STATE, () -> x.difference(0, 39));
        Check.thrown("full: product", Check.STATE, () -> x.product(0, 39));
        Check.thrown("full: greater", Check.STATE, () -> x.greater(0, 39));
        Check.thrown("full: inverse", Check.STATE, () -> x.inverse(39));
        Check.thrown("full: root", Check.STATE, () -> x.root(39));
        Check.thrown("full: exp", Check.STATE, () -> x.exp(39));
        Check.thrown("full: zero", Check.STATE, () -> x.zero(-1, 2, 0, 0, 0, 0));
        Check.thrown("full, like signs: zero", Check.STATE, () -> x.zero(1, 0, 0, 0, 0, 0));
        Check.thrown("full, out of range: ratio", Check.ARGUMENT, () -> x.ratio(1, 0));
        Check.thrown("full, out of range: zero", Check.ARGUMENT, () -> x.zero(-1, 2, 0, 0, 0, 3));
        Check.thrown("full, no such program: sum", Check.INDEX, () -> x.sum(0, 40));
        Check.thrown("full, no such program: difference", Check.INDEX, () -> x.difference(-1, 0));
        Check.thrown("full, no such program: product", Check.INDEX, () -> x.product(40, 0));
        Check.thrown("full, no such program: greater", Check.INDEX, () -> x.greater(0, -1));
        Check.thrown("full, no such program: inverse", Check.INDEX, () -> x.inverse(40));
        Check.thrown("full, no such program: root", Check.INDEX, () -> x.root(40));
        Check.thrown("full, no such program: exp", Check.INDEX, () -> x.exp(-1));
        Check.due("full: count", 40, () -> x.count());
        Check.due("full: needs(39)", 40, () -> x.needs(39));
        Check.raw(x, 39, 4, 14, 16);
    }

    private static void needs() {
        Nestlimit x = new Nestlimit();
        x.ratio(1, 2);
        x.zero(-2, 0, 1, 0, 0, 1);
        x.sum(0, 0);
        x.difference(1, 0);
        x.product(2, 3);
        x.inverse(4);
        x.root(1);
        x.exp(6);
        x.greater(5, 7);
        long[] due = {1, 1, 2, 3, 5, 6, 2, 3, 9};
        for (int program = 0; program < due.length; program++) {
            int number = program;
            Check.due("needs(" + number + ")", due[number], () -> x.needs(number));
        }
        for (int wrong : new int[] {-1, 9, 40, MIN, MAX}) {
            Check.thrown("needs(" + wrong + ")", Check.INDEX, () -> x.needs(wrong));
        }
        Check.due("count", 9, () -> x.count());
    }

    private static void needsOfAll() {
        Nestlimit x = new Nestlimit();
        for (int number = 0; number < 20; number++) {
            x.ratio(number, 7);
        }
        for (int number = 20; number < 40; number++) {
            x.sum(number - 20, number - 1);
        }
        Check.due("needs(39), made of all", 40, () -> x.needs(39));
        Check.due("needs(38), made of all but 39", 39, () -> x.needs(38));
        Check.due("needs(20), 0 and 19 and itself", 3, () -> x.needs(20));
    }
}
