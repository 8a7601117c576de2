/** Promises 17 (decimals), 18 (decimal) and 19 (quotient). */
public final class NotationsTest {
    private static final int MIN = Integer.MIN_VALUE;
    private static final int MAX = Integer.MAX_VALUE;

    public static void main(String[] args) {
        decimals();
        belowZero();
        sureAheadOfUnsure();
        decimalsOfNone();
        wrongDecimals();
        quotients();
        quotientsEnd();
        quotientsBelowZero();
        wrongQuotients();
        Check.end("NotationsTest");
    }

    private static void row(Nestlimit x, int program, int place, long... due) {
        for (int decimal = 0; decimal < due.length; decimal++) {
            int number = decimal;
            Check.due("decimal(" + program + ", " + place + ", " + number + ")", due[number],
                    () -> x.decimal(program, place, number));
        }
    }

    private static void decimals() {
        Nestlimit x = new Nestlimit();
        x.ratio(2, 1);
        x.root(0);
        x.ratio(355, 113);
        x.ratio(64, 1);
        Check.due("decimals(1, 0)", -1, () -> x.decimals(1, 0));
        Check.due("decimals(1, 1)", 0, () -> x.decimals(1, 1));
        Check.due("decimals(1, 10)", 2, () -> x.decimals(1, 10));
        Check.due("decimals(1, 24)", 7, () -> x.decimals(1, 24));
        row(x, 1, 24, 1, 4, 1, 4, 2, 1, 3, 5);
        Check.due("decimals(2, 24)", 7, () -> x.decimals(2, 24));
        row(x, 2, 24, 3, 1, 4, 1, 5, 9, 2, 9);
        Check.due("decimals(2, 22)", 6, () -> x.decimals(2, 22));
        Check.thrown("decimal(2, 22, 7)", Check.STATE, () -> x.decimal(2, 22, 7));
        Check.due("decimals(3, 0)", 7, () -> x.decimals(3, 0));
        row(x, 3, 0, 64, 0, 0, 0, 0, 0, 0, 0);
    }

    private static void belowZero() {
        Nestlimit x = new Nestlimit();
        x.ratio(-1, 3);
        x.ratio(-5, 4);
        x.ratio(-64, 1);
        Check.due("decimals(0, 0)", -1, () -> x.decimals(0, 0));
        Check.due("decimals(0, 24)", 7, () -> x.decimals(0, 24));
        row(x, 0, 24, -1, 6, 6, 6, 6, 6, 6, 6);
        Check.due("decimals(1, 2)", 7, () -> x.decimals(1, 2));
        row(x, 1, 2, -2, 7, 5, 0, 0, 0, 0, 0);
        row(x, 2, 24, -64, 0, 0);
    }

    private static void sureAheadOfUnsure() {
        Nestlimit x = new Nestlimit();
        x.ratio(1, 3);
        Check.due("decimals(0, 1), 0 and 1/2: neither decimal 0", 0, () -> x.decimals(0, 1));
        Check.due("decimal(0, 1, 0)", 0, () -> x.decimal(0, 1, 0));
        Check.thrown("decimal(0, 1, 1)", Check.STATE, () -> x.decimal(0, 1, 1));
        Check.due("decimals(0, 10)", 3, () -> x.decimals(0, 10));
        Check.due("decimal(0, 10, 3)", 3, () -> x.decimal(0, 10, 3));
        Check.thrown("decimal(0, 10, 4)", Check.STATE, () -> x.decimal(0, 10, 4));
        Check.thrown("decimal(0, 0, 0)", Check.STATE, () -> x.decimal(0, 0, 0));
        // Of 2 + [-1, 1] at 24 the decimals are 1.9999999 and 2.0000000: the decimal 0 is not sure, so none is.
        x.difference(0, 0);
        x.ratio(2, 1);
        x.sum(1, 2);
        Check.due("decimals(3, 24)", -1, () -> x.decimals(3, 24));
        Check.thrown("decimal(3, 24, 0)", Check.STATE, () -> x.decimal(3, 24, 0));
        Check.thrown("decimal(3, 24, 7)", Check.STATE, () -> x.decimal(3, 24, 7));
        // Both ends have the decimal 0 by themselves, but not all ahead of it: [0, 1] at the place 0.
        Check.thrown("decimal(0, 0, 1)", Check.STATE, () -> x.decimal(0, 0, 1));
    }

    private static void decimalsOfNone() {
        Nestlimit x = new Nestlimit();
        x.ratio(65, 1);
        Check.due("decimals(0, 24)", -1, () -> x.decimals(0, 24));
        Check.thrown("decimal(0, 24, 0)", Check.STATE, () -> x.decimal(0, 24, 0));
        Check.thrown("decimal(0, 24, 7)", Check.STATE, () -> x.decimal(0, 24, 7));
        Check.thrown("quotient(0, 24, 0)", Check.STATE, () -> x.quotient(0, 24, 0));
        Check.thrown("quotient(0, 24, 24)", Check.STATE, () -> x.quotient(0, 24, 24));
    }

    private static void wrongDecimals() {
        Nestlimit x = new Nestlimit();
        x.ratio(1, 2);
        x.ratio(65, 1);
        for (int wrong : new int[] {-1, 2, 40, MIN, MAX}) {
            Check.thrown("decimals(" + wrong + ", 0)", Check.INDEX, () -> x.decimals(wrong, 0));
            Check.thrown("decimals(" + wrong + ", 25)", Check.INDEX, () -> x.decimals(wrong, 25));
            Check.thrown("decimal(" + wrong + ", 0, 0)", Check.INDEX, () -> x.decimal(wrong, 0, 0));
            Check.thrown("decimal(" + wrong + ", 25, 8)", Check.INDEX, () -> x.decimal(wrong, 25, 8));
        }
        for (int wrong : new int[] {-1, 25, MIN, MAX}) {
            Check.thrown("decimals(0, " + wrong + ")", Check.ARGUMENT, () -> x.decimals(0, wrong));
            Check.thrown("decimals(1, " + wrong + ")", Check.ARGUMENT, () -> x.decimals(1, wrong));
            Check.thrown("decimal(0, " + wrong + ", 0)", Check.ARGUMENT, () -> x.decimal(0, wrong, 0));
            Check.thrown("decimal(1, " + wrong + ", 0)", Check.ARGUMENT, () -> x.decimal(1, wrong, 0));
        }
        for (int wrong : new int[] {-1, 8, MIN, MAX}) {
            Check.thrown("decimal(0, 0, " + wrong + ")", Check.ARGUMENT, () -> x.decimal(0, 0, wrong));
            Check.thrown("decimal(1, 0, " + wrong + ")", Check.ARGUMENT, () -> x.decimal(1, 0, wrong));
        }
        Check.due("decimal(0, 1, 7)", 0, () -> x.decimal(0, 1, 7));
    }

    private static void quotientRow(Nestlimit x, int program, int place, long... due) {
        for (int quotient = 0; quotient < due.length; quotient++) {
            int number = quotient;
            Check.due("quotient(" + program + ", " + place + ", " + number + ")", due[number],
                    () -> x.quotient(program, place, number));
        }
        Check.thrown("quotient(" + program + ", " + place + ", " + due.length + ")", Check.STATE,
                () -> x.quotient(program, place, due.length));
        Check.thrown("quotient(" + program + ", " + place + ", 24)", Check.STATE,
                () -> x.quotient(program, place, 24));
    }

    private static void quotients() {
        Nestlimit x = new Nestlimit();
        x.ratio(2, 1);
        x.root(0);
        x.ratio(355, 113);
        x.zero(-2, 0, 1, 0, 1, 0);
        quotientRow(x, 1, 24, 1, 2, 2, 2, 2, 2, 2, 2, 2, 2);
        quotientRow(x, 1, 1, 1);
        quotientRow(x, 2, 24, 3, 7);
        Check.due("quotient(3, 24, 5)", 2, () -> x.quotient(3, 24, 5));
    }

    private static void quotientsEnd() {
        Nestlimit x = new Nestlimit();
        x.ratio(5, 4);
        x.ratio(64, 1);
        x.ratio(1, 64);
        x.ratio(1, 3);
        x.ratio(0, 1);
        quotientRow(x, 0, 2, 1, 4);
        quotientRow(x, 0, 24, 1, 4);
        quotientRow(x, 1, 0, 64);
        quotientRow(x, 2, 24, 0, 64);
        quotientRow(x, 4, 24, 0);
        // At the place 1 it is 0 to 1/2: nothing is left of the low end, ahead of the quotient 1.
        quotientRow(x, 3, 1, 0);
        quotientRow(x, 3, 10, 0);
        Check.thrown("quotient(3, 0, 0), 0 and 1", Check.STATE, () -> x.quotient(3, 0, 0));
        // 5/8 to 3/4: 0, 1, then 1 (and 1, 2) and 3: unlike.
        x.ratio(7, 10);
        quotientRow(x, 5, 3, 0, 1);
        // 85/128 to 86/128: 0, 1, 1 and 2.
        x.ratio(2, 3);
        quotientRow(x, 6, 7, 0, 1);
        // 11/16 to 12/16: 0, 1, 2 (and 5), and 3.
        quotientRow(x, 5, 4, 0, 1);
        // 22/32 to 23/32: 0, 1, 2, then 5 and 1.
        quotientRow(x, 5, 5, 0, 1, 2);
    }

    private static void quotientsBelowZero() {
        Nestlimit x = new Nestlimit();
        x.ratio(-5, 4);
        x.ratio(-64, 1);
        x.ratio(-1, 3);
        quotientRow(x, 0, 2, -2, 1, 3);
        quotientRow(x, 1, 24, -64);
        Check.due("quotient(2, 24, 0)", -1, () -> x.quotient(2, 24, 0));
        Check.due("quotient(2, 24, 1)", 1, () -> x.quotient(2, 24, 1));
    }

    private static void wrongQuotients() {
        Nestlimit x = new Nestlimit();
        x.ratio(1, 2);
        x.ratio(65, 1);
        for (int wrong : new int[] {-1, 2, 40, MIN, MAX}) {
            Check.thrown("quotient(" + wrong + ", 0, 0)", Check.INDEX, () -> x.quotient(wrong, 0, 0));
            Check.thrown("quotient(" + wrong + ", 25, 25)", Check.INDEX, () -> x.quotient(wrong, 25, 25));
        }
        for (int wrong : new int[] {-1, 25, MIN, MAX}) {
            Check.thrown("quotient(0, " + wrong + ", 0)", Check.ARGUMENT, () -> x.quotient(0, wrong, 0));
            Check.thrown("quotient(1, " + wrong + ", 0)", Check.ARGUMENT, () -> x.quotient(1, wrong, 0));
            Check.thrown("quotient(0, 0, " + wrong + ")", Check.ARGUMENT, () -> x.quotient(0, 0, wrong));
            Check.thrown("quotient(1, 0, " + wrong + ")", Check.ARGUMENT, () -> x.quotient(1, 0, wrong));
        }
        Check.due("quotient(0, 1, 1)", 2, () -> x.quotient(0, 1, 1));
    }
}
