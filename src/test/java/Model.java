import java.math.BigInteger;
import java.util.ArrayList;
import java.util.HashMap;
import java.util.HashSet;
import java.util.List;
import java.util.Map;
import java.util.Set;

/**
 * The document once more, as slow and as plain as can be: big whole numbers, nothing kept but the
 * programs and the digits, every answer reckoned from the words anew.
 */
final class Model {
    private static final BigInteger ZERO = BigInteger.ZERO;
    private static final BigInteger ONE = BigInteger.ONE;
    private static final BigInteger TWO = BigInteger.TWO;

    private record Made(String kind, int[] with) {
    }

    private record Ends(BigInteger low, BigInteger high) {
    }

    private final List<Made> programs = new ArrayList<>();
    private final List<List<Integer>> digits = new ArrayList<>();
    private final Map<Integer, Ends> known = new HashMap<>();

    // ---- making

    long ratio(int numerator, int denominator) {
        argument(numerator >= -1000 && numerator <= 1000 && denominator >= 1 && denominator <= 1000);
        return add("ratio", numerator, denominator);
    }

    long of(String kind, int... parts) {
        for (int part : parts) {
            program(part);
        }
        return add(kind, parts);
    }

    long zero(int a, int b, int c, int d, int from, int halves) {
        for (int factor : new int[] {a, b, c, d}) {
            argument(-9 <= factor && factor <= 9);
        }
        argument(-4 <= from && from <= 3 && 0 <= halves && halves <= 2);
        int[] with = {a, b, c, d, from, halves};
        int one = sign(with, BigInteger.valueOf(from), ONE);
        int other = sign(with, BigInteger.valueOf(from + List.of(1, 2, 4).get(halves)), ONE);
        state(one != 0 && other != 0 && one != other);
        return add("zero", with);
    }

    private int add(String kind, int... with) {
        state(programs.size() < 40);
        programs.add(new Made(kind, with));
        digits.add(new ArrayList<>());
        return programs.size() - 1;
    }

    // ---- intervals

    long raw(int program, int place, boolean isHigh) {
        program(program);
        place(place);
        return end(find(program, place), isHigh);
    }

    long told(int program, int place, boolean isHigh) {
        program(program);
        place(place);
        return end(told(program, place), isHigh);
    }

    long instead(int program, int gone, int other, int place, boolean isHigh) {
        program(program);
        program(gone);
        program(other);
        place(place);
        Map<Integer, Ends> found = new HashMap<>();
        found.put(gone, find(other, place));
        return end(find(program, place, found), isHigh);
    }

    long place(int program, int fine) {
        program(program);
        place(fine);
        for (int place = 0; place <= 24; place++) {
            Ends told = told(program, place);
            if (place >= fine && told != null
                    && told.high.subtract(told.low).compareTo(ONE.shiftLeft(place - fine)) <= 0) {
                return place;
            }
        }
        return -1;
    }

    // ---- comparing

    long compare(int program, int other, int place) {
        program(program);
        program(other);
        place(place);
        Ends one = told(program, place);
        Ends two = told(other, place);
        if (one == null || two == null) {
            return 0;
        }
        if (one.high.compareTo(two.low) < 0) {
            return -1;
        }
        return two.high.compareTo(one.low) < 0 ? 1 : 0;
    }

    long decided(int program, int other) {
        program(program);
        program(other);
        for (int place = 0; place <= 24; place++) {
            if (compare(program, other, place) != 0) {
                return place;
            }
        }
        return -1;
    }

    // ---- notations

    long decimals(int program, int place) {
        program(program);
        place(place);
        Ends told = told(program, place);
        int sure = -1;
        while (told != null && sure < 7 && tens(told.low, sure + 1, place).equals(tens(told.high, sure + 1, place))) {
            sure++;
        }
        return sure;
    }

    long decimal(int program, int place, int decimal) {
        program(program);
        place(place);
        argument(decimal >= 0 && decimal <= 7);
        state(decimals(program, place) >= decimal);
        BigInteger number = tens(told(program, place).low, decimal, place);
        return decimal == 0 ? number.longValueExact() : number.mod(BigInteger.TEN).longValueExact();
    }

    private static BigInteger tens(BigInteger end, int decimal, int place) {
        return cut(end.multiply(BigInteger.TEN.pow(decimal)), ONE.shiftLeft(place));
    }

    long quotient(int program, int place, int number) {
        program(program);
        place(place);
        argument(number >= 0 && number <= 24);
        Ends told = told(program, place);
        state(told != null);
        List<BigInteger> low = quotients(told.low, ONE.shiftLeft(place));
        List<BigInteger> high = quotients(told.high, ONE.shiftLeft(place));
        for (int i = 0; i <= number; i++) {
            state(i < low.size() && i < high.size() && low.get(i).equals(high.get(i)));
        }
        return low.get(number).longValueExact();
    }

    private static List<BigInteger> quotients(BigInteger top, BigInteger bottom) {
        List<BigInteger> all = new ArrayList<>();
        while (bottom.signum() != 0) {
            BigInteger whole = cut(top, bottom);
            all.add(whole);
            BigInteger left = top.subtract(whole.multiply(bottom));
            top = bottom;
            bottom = left;
        }
        return all;
    }

    // ---- digits

    long next(int program) {
        program(program);
        List<Integer> emitted = digits.get(program);
        int k = emitted.size();
        state(k < 24);
        for (int place = k + 1; place <= 24; place++) {
            Ends told = told(program, place);
            if (told == null) {
                continue;
            }
            BigInteger unit = ONE.shiftLeft(place - k);
            BigInteger gone = BigInteger.valueOf(partial(program)).multiply(unit);
            BigInteger low = told.low.subtract(gone);
            BigInteger high = told.high.subtract(gone);
            if (k == 0 && (low.compareTo(unit.negate()) < 0 || high.compareTo(unit) > 0)) {
                continue;
            }
            Integer digit = null;
            if (low.multiply(TWO).compareTo(unit.negate()) >= 0 && high.multiply(TWO).compareTo(unit) <= 0) {
                digit = 0;
            } else if (low.signum() >= 0) {
                digit = 1;
            } else if (high.signum() <= 0) {
                digit = -1;
            }
            if (digit != null) {
                emitted.add(digit);
                return digit;
            }
        }
        throw new IllegalStateException();
    }

    long emitted(int program) {
        program(program);
        return digits.get(program).size();
    }

    long partial(int program) {
        program(program);
        long sum = 0;
        for (int digit : digits.get(program)) {
            sum = 2 * sum + digit;
        }
        return sum;
    }

    long restart(int program) {
        program(program);
        long before = digits.get(program).size();
        digits.get(program).clear();
        return before;
    }

    // ---- what there is

    long count() {
        return programs.size();
    }

    long needs(int program) {
        program(program);
        Set<Integer> all = new HashSet<>();
        gather(program, all);
        return all.size();
    }

    private void gather(int program, Set<Integer> all) {
        Made made = programs.get(program);
        if (all.add(program) && !made.kind.equals("ratio") && !made.kind.equals("zero")) {
            for (int part : made.with) {
                gather(part, all);
            }
        }
    }

    // ---- what a program finds

    private Ends find(int program, int place) {
        int key = program * 25 + place;
        if (!known.containsKey(key)) {
            known.put(key, find(program, place, new HashMap<>()));
        }
        return known.get(key);
    }

    private Ends find(int program, int place, Map<Integer, Ends> found) {
        if (!found.containsKey(program)) {
            found.put(program, reach(find(programs.get(program), place, found), place));
        }
        return found.get(program);
    }

    private static Ends reach(Ends ends, int place) {
        BigInteger most = BigInteger.valueOf(64).shiftLeft(place);
        boolean isBeyond = ends == null;
        for (BigInteger end : ends == null ? List.<BigInteger>of() : List.of(ends.low, ends.high)) {
            isBeyond |= end.abs().compareTo(most) > 0;
        }
        return isBeyond ? null : ends;
    }

    private Ends find(Made made, int place, Map<Integer, Ends> found) {
        BigInteger n = ONE.shiftLeft(place);
        if (made.kind.equals("ratio")) {
            BigInteger top = BigInteger.valueOf(made.with[0]).multiply(n);
            BigInteger bottom = BigInteger.valueOf(made.with[1]);
            return new Ends(cut(top, bottom), fill(top, bottom));
        }
        if (made.kind.equals("zero")) {
            return findZero(made.with, place);
        }
        Ends one = find(made.with[0], place, found);
        Ends two = find(made.with[made.with.length - 1], place, found);
        if (one == null || two == null) {
            return null;
        }
        switch (made.kind) {
            case "sum":
                return new Ends(one.low.add(two.low), one.high.add(two.high));
            case "difference":
                return new Ends(one.low.subtract(two.high), one.high.subtract(two.low));
            case "product":
                return product(one, two, n);
            case "greater":
                return new Ends(one.low.max(two.low), one.high.max(two.high));
            case "inverse":
                return one.low.signum() * one.high.signum() <= 0 ? null
                        : new Ends(cut(n.multiply(n), one.high), fill(n.multiply(n), one.low));
            case "root":
                BigInteger square = one.high.max(ZERO).multiply(n);
                BigInteger root = square.sqrt();
                return new Ends(one.low.max(ZERO).multiply(n).sqrt(),
                        root.multiply(root).equals(square) ? root : root.add(ONE));
            case "exp":
                return exp(one, n);
            default:
                throw new AssertionError(made.kind);
        }
    }

    private static Ends product(Ends one, Ends two, BigInteger n) {
        List<BigInteger> all = new ArrayList<>(List.of(one.low.multiply(two.low), one.low.multiply(two.high),
                one.high.multiply(two.low), one.high.multiply(two.high)));
        all.sort(null);
        return new Ends(cut(all.get(0), n), fill(all.get(3), n));
    }

    private static Ends exp(Ends of, BigInteger n) {
        if (of.low.compareTo(n.negate()) < 0 || of.high.compareTo(n) > 0) {
            return null;
        }
        Ends sum = new Ends(n, n);
        for (int k = 12; k >= 1; k--) {
            BigInteger by = BigInteger.valueOf(k);
            Ends product = product(of, sum, n);
            sum = new Ends(cut(product.low, by).add(n), fill(product.high, by).add(n));
        }
        return new Ends(sum.low.subtract(ONE), sum.high.add(ONE));
    }

    private static Ends findZero(int[] with, int place) {
        if (place > 16) {
            Ends at16 = findZero(with, 16);
            return new Ends(at16.low.shiftLeft(place - 16), at16.high.shiftLeft(place - 16));
        }
        BigInteger n = ONE.shiftLeft(place);
        BigInteger low = BigInteger.valueOf(with[4]).multiply(n);
        BigInteger high = BigInteger.valueOf(with[4] + List.of(1, 2, 4).get(with[5])).multiply(n);
        int lowSign = sign(with, low, n);
        while (high.subtract(low).compareTo(ONE) > 0) {
            BigInteger middle = low.add(high).shiftRight(1);
            int sign = sign(with, middle, n);
            if (sign == 0) {
                return new Ends(middle, middle);
            }
            if (sign == lowSign) {
                low = middle;
            } else {
                high = middle;
            }
        }
        return new Ends(low, high);
    }

    private static int sign(int[] with, BigInteger x, BigInteger n) {
        BigInteger sum = ZERO;
        for (int power = 0; power < 4; power++) {
            sum = sum.add(BigInteger.valueOf(with[power]).multiply(x.pow(power)).multiply(n.pow(3 - power)));
        }
        return sum.signum();
    }

    private Ends told(int program, int place) {
        Ends left = null;
        for (int at = 0; at <= place; at++) {
            Ends found = find(program, at);
            if (found != null) {
                BigInteger low = found.low.shiftLeft(place - at);
                BigInteger high = found.high.shiftLeft(place - at);
                left = left == null ? new Ends(low, high) : new Ends(left.low.max(low), left.high.min(high));
            }
        }
        return left;
    }

    // ---- whole numbers, and what is thrown

    private static BigInteger cut(BigInteger value, BigInteger by) {
        BigInteger[] both = value.divideAndRemainder(by);
        return both[1].signum() != 0 && both[1].signum() != by.signum() ? both[0].subtract(ONE) : both[0];
    }

    private static BigInteger fill(BigInteger value, BigInteger by) {
        return cut(value.negate(), by).negate();
    }

    private static long end(Ends ends, boolean isHigh) {
        state(ends != null);
        return (isHigh ? ends.high : ends.low).longValueExact();
    }

    private void program(int number) {
        if (number < 0 || number >= programs.size()) {
            throw new IndexOutOfBoundsException();
        }
    }

    private static void place(int place) {
        argument(place >= 0 && place <= 24);
    }

    private static void argument(boolean isRight) {
        if (!isRight) {
            throw new IllegalArgumentException();
        }
    }

    private static void state(boolean isRight) {
        if (!isRight) {
            throw new IllegalStateException();
        }
    }
}
