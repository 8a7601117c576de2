/** An object to begin with: eight programs of which the edges of others are made. */
final class Stock {
    static final int NIL = 0;
    static final int ONE = 1;
    static final int THIRD = 2;
    /** 65, which finds none at any place. */
    static final int NOTHING = 3;
    static final int MILLI = 4;
    static final int MICRO = 5;
    /** From 0 to 1 unit at every place. */
    static final int TINY = 6;
    /** From -1 to 1 unit at every place. */
    static final int AROUND = 7;
    static final int COUNT = 8;
    /** The places at which something changes: the first, both sides of the last halved one, the last. */
    static final int[] PLACES = {0, 16, 17, 24};

    private Stock() {
    }

    static Nestlimit made() {
        Nestlimit x = new Nestlimit();
        x.ratio(0, 1);
        x.ratio(1, 1);
        x.ratio(1, 3);
        x.ratio(65, 1);
        x.ratio(1, 1000);
        x.product(MILLI, MILLI);
        x.product(MICRO, MICRO);
        x.difference(THIRD, THIRD);
        return x;
    }

    /** Adds programs, of which the last one has just so many units at the place 24 at both ends; answers its number. */
    static int addExact(Nestlimit x, int units) {
        int step = x.ratio(1, 256);
        int last = x.ratio(units & 255, 256);
        int both = x.sum(x.ratio(units >> 8 & 255, 256), x.product(last, step));
        return x.sum(x.ratio(units >> 16 & 255, 256), x.product(both, step));
    }

    /**
     * Adds programs to those of made(): the last but one is near 64, the last one near 1/64, and both
     * find none at the places below 16, 17, 20 or 24, whichever is asked for.
     */
    static int addLate(Nestlimit x, int place) {
        int more = MICRO;
        if (place == 24) {
            more = x.product(MICRO, x.ratio(1, 10));
        } else if (place < 20) {
            more = x.product(MILLI, x.ratio(place == 17 ? 1 : 2, 100));
        }
        int near = x.difference(x.sum(x.ratio(1, 64), more), TINY);
        return x.inverse(x.inverse(near));
    }
}
