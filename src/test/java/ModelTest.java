/** Runs of 512 calls each, chosen by a fixed row of numbers, answered by the class and by the model alike. */
public final class ModelTest {
    private static final int RUNS = 400;
    private static final int CALLS = 512;
    private static final String[] OF_TWO = {"sum", "difference", "product", "greater"};
    private static final String[] OF_ONE = {"inverse", "root", "exp"};

    private long state;
    private Nestlimit x;
    private Model model;

    private ModelTest(int run) {
        state = 88172645463325252L + run * 7919L;
        x = new Nestlimit();
        model = new Model();
    }

    public static void main(String[] args) {
        for (int run = 0; run < RUNS; run++) {
            new ModelTest(run).go(run);
        }
        Check.end("ModelTest");
    }

    private void go(int run) {
        for (int call = 0; call < CALLS; call++) {
            String what = "run " + run + ", call " + call + ": ";
            if (pick(100) < (call < 60 ? 70 : 6)) {
                makeOne(what);
            } else {
                askOne(what);
            }
        }
    }

    /** 0 to below the bound, from a row of numbers that is always the same. */
    private int pick(int bound) {
        state ^= state << 13;
        state ^= state >>> 7;
        state ^= state << 17;
        return (int) Math.floorMod(state >>> 11, (long) bound);
    }

    private int between(int least, int greatest) {
        return least + pick(greatest - least + 1);
    }

    /** In its range nearly always, sometimes just beyond, now and then far off. */
    private int ranged(int least, int greatest) {
        int kind = pick(150);
        if (kind == 0) {
            return least - 1;
        }
        if (kind == 1) {
            return greatest + 1;
        }
        if (kind == 2) {
            return pick(2) == 0 ? Integer.MIN_VALUE : Integer.MAX_VALUE;
        }
        return kind < 12 ? least : kind < 22 ? greatest : between(least, greatest);
    }

    private int program() {
        int count = (int) model.count();
        return count == 0 ? ranged(-1, 0) : ranged(0, count - 1);
    }

    private int place() {
        return ranged(0, 24);
    }

    private void both(String what, Check.Call want, Check.Call got) {
        Check.same(what, Check.outcome(want), Check.outcome(got));
    }

    private void makeOne(String what) {
        int kind = model.count() < 3 ? pick(3) : pick(12);
        if (kind < 2) {
            makeRatio(what);
        } else if (kind < 4) {
            makeZero(what);
        } else if (kind < 9) {
            makeOfTwo(what);
        } else {
            makeOfOne(what);
        }
    }

    private void makeRatio(String what) {
        boolean isWide = pick(3) == 0;
        int numerator = isWide ? ranged(-1000, 1000) : between(-12, 12);
        int denominator = isWide ? ranged(1, 1000) : between(1, 12);
        both(what + "ratio(" + numerator + ", " + denominator + ")",
                () -> model.ratio(numerator, denominator), () -> x.ratio(numerator, denominator));
    }

    private void makeZero(String what) {
        int a = ranged(-9, 9);
        int b = ranged(-9, 9);
        int c = ranged(-9, 9);
        int d = ranged(-9, 9);
        int from = ranged(-4, 3);
        int halves = ranged(0, 2);
        both(what + "zero(" + a + ", " + b + ", " + c + ", " + d + ", " + from + ", " + halves + ")",
                () -> model.zero(a, b, c, d, from, halves), () -> x.zero(a, b, c, d, from, halves));
    }

    private void makeOfTwo(String what) {
        int one = program();
        int other = program();
        String kind = OF_TWO[pick(4)];
        both(what + kind + "(" + one + ", " + other + ")", () -> model.of(kind, one, other), () -> {
            switch (kind) {
                case "sum": return x.sum(one, other);
                case "difference": return x.difference(one, other);
                case "product": return x.product(one, other);
                default: return x.greater(one, other);
            }
        });
    }

    private void makeOfOne(String what) {
        int one = program();
        String kind = OF_ONE[pick(3)];
        both(what + kind + "(" + one + ")", () -> model.of(kind, one), () -> {
            switch (kind) {
                case "inverse": return x.inverse(one);
                case "root": return x.root(one);
                default: return x.exp(one);
            }
        });
    }

    private void askOne(String what) {
        int kind = pick(16);
        if (kind < 6) {
            askInterval(what, kind);
        } else if (kind < 11) {
            askNotation(what, kind);
        } else {
            askDigits(what, kind);
        }
    }

    private void askInterval(String what, int kind) {
        int program = program();
        int gone = program();
        int other = program();
        int place = place();
        boolean isHigh = pick(2) == 0;
        String ends = place + ", " + isHigh + ")";
        if (kind == 0) {
            both(what + "raw(" + program + ", " + ends,
                    () -> model.raw(program, place, isHigh), () -> x.raw(program, place, isHigh));
        } else if (kind == 1) {
            both(what + "told(" + program + ", " + ends,
                    () -> model.told(program, place, isHigh), () -> x.told(program, place, isHigh));
        } else if (kind < 5) {
            both(what + "instead(" + program + ", " + gone + ", " + other + ", " + ends,
                    () -> model.instead(program, gone, other, place, isHigh),
                    () -> x.instead(program, gone, other, place, isHigh));
        } else {
            both(what + "place(" + program + ", " + place + ")",
                    () -> model.place(program, place), () -> x.place(program, place));
        }
    }

    private void askNotation(String what, int kind) {
        int program = program();
        int other = program();
        int place = place();
        int decimal = ranged(0, 7);
        int number = pick(3) == 0 ? ranged(0, 24) : between(0, 5);
        if (kind == 6) {
            both(what + "compare(" + program + ", " + other + ", " + place + ")",
                    () -> model.compare(program, other, place), () -> x.compare(program, other, place));
        } else if (kind == 7) {
            both(what + "decided(" + program + ", " + other + ")",
                    () -> model.decided(program, other), () -> x.decided(program, other));
        } else if (kind == 8) {
            both(what + "decimals(" + program + ", " + place + ")",
                    () -> model.decimals(program, place), () -> x.decimals(program, place));
        } else if (kind == 9) {
            both(what + "decimal(" + program + ", " + place + ", " + decimal + ")",
                    () -> model.decimal(program, place, decimal), () -> x.decimal(program, place, decimal));
        } else {
            both(what + "quotient(" + program + ", " + place + ", " + number + ")",
                    () -> model.quotient(program, place, number), () -> x.quotient(program, place, number));
        }
    }

    private void askDigits(String what, int kind) {
        // Often the same few programs, so that rows of digits grow long.
        int program = pick(4) == 0 ? program() : Math.min(pick(6), Math.max((int) model.count() - 1, 0));
        if (kind < 14) {
            both(what + "next(" + program + ")", () -> model.next(program), () -> x.next(program));
            return;
        }
        int which = pick(12);
        if (which < 4) {
            both(what + "emitted(" + program + ")", () -> model.emitted(program), () -> x.emitted(program));
        } else if (which < 8) {
            both(what + "partial(" + program + ")", () -> model.partial(program), () -> x.partial(program));
        } else if (which == 8) {
            both(what + "restart(" + program + ")", () -> model.restart(program), () -> x.restart(program));
        } else if (which == 9) {
            both(what + "count()", () -> model.count(), () -> x.count());
        } else {
            both(what + "needs(" + program + ")", () -> model.needs(program), () -> x.needs(program));
        }
    }
}
