/** Prints the decimals of the root of 2 that are sure at some places. */
public final class Try {
    public static void main(String[] args) {
        Nestlimit x = new Nestlimit();
        int two = x.ratio(2, 1);
        int root = x.root(two);
        for (int place = 0; place <= 24; place += 8) {
            System.out.println("at the place " + place + ": " + decimals(x, root, place));
        }
    }

    private static String decimals(Nestlimit x, int program, int place) {
        int last = x.decimals(program, place);
        if (last == Nestlimit.NONE) {
            return "none is sure";
        }
        StringBuilder text = new StringBuilder();
        for (int n = 0; n <= last; n++) {
            text.append(n == 1 ? "." : "").append(x.decimal(program, place, n));
        }
        return text.toString();
    }
}
