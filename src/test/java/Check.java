/** Counts the answers that are not as due; each test ends with end(). */
final class Check {
    interface Call {
        long answer();
    }

    static final Class<?> INDEX = IndexOutOfBoundsException.class;
    static final Class<?> ARGUMENT = IllegalArgumentException.class;
    static final Class<?> STATE = IllegalStateException.class;

    private static int made = 0;
    private static int wrong = 0;

    private Check() {
    }

    /** What a call answers, or the name of the very class that it throws. */
    static String outcome(Call call) {
        try {
            return Long.toString(call.answer());
        } catch (RuntimeException thrown) {
            return "throws." + thrown.getClass().getSimpleName();
        }
    }

    static void same(String what, String want, String got) {
        made++;
        if (!want.equals(got)) {
            wrong++;
            System.out.println(what + " answered " + got + ", due is " + want);
        }
    }

    static void due(String what, long want, Call call) {
        same(what, Long.toString(want), outcome(call));
    }

    static void thrown(String what, Class<?> want, Call call) {
        same(what, "throws." + want.getSimpleName(), outcome(call));
    }

    /** Both ends of what a program finds. */
    static void raw(Nestlimit x, int program, int place, long low, long high) {
        due("raw(" + program + ", " + place + ", false)", low, () -> x.raw(program, place, false));
        due("raw(" + program + ", " + place + ", true)", high, () -> x.raw(program, place, true));
    }

    static void noRaw(Nestlimit x, int program, int place) {
        thrown("raw(" + program + ", " + place + ", false)", STATE, () -> x.raw(program, place, false));
        thrown("raw(" + program + ", " + place + ", true)", STATE, () -> x.raw(program, place, true));
    }

    /** Both ends of what is told of a program. */
    static void told(Nestlimit x, int program, int place, long low, long high) {
        due("told(" + program + ", " + place + ", false)", low, () -> x.told(program, place, false));
        due("told(" + program + ", " + place + ", true)", high, () -> x.told(program, place, true));
    }

    static void noTold(Nestlimit x, int program, int place) {
        thrown("told(" + program + ", " + place + ", false)", STATE, () -> x.told(program, place, false));
        thrown("told(" + program + ", " + place + ", true)", STATE, () -> x.told(program, place, true));
    }

    /** Both ends of what a program finds, and of what is told of it: each interval lies within the ones ahead of it. */
    static void found(Nestlimit x, int program, int place, long low, long high) {
        raw(x, program, place, low, high);
        told(x, program, place, low, high);
    }

    static void none(Nestlimit x, int program, int place) {
        noRaw(x, program, place);
        noTold(x, program, place);
    }

    /** Both ends of what a program would find. */
    static void instead(Nestlimit x, int program, int gone, int other, int place, long low, long high) {
        String call = "instead(" + program + ", " + gone + ", " + other + ", " + place + ", ";
        due(call + "false)", low, () -> x.instead(program, gone, other, place, false));
        due(call + "true)", high, () -> x.instead(program, gone, other, place, true));
    }

    static void noInstead(Nestlimit x, int program, int gone, int other, int place) {
        String call = "instead(" + program + ", " + gone + ", " + other + ", " + place + ", ";
        thrown(call + "false)", STATE, () -> x.instead(program, gone, other, place, false));
        thrown(call + "true)", STATE, () -> x.instead(program, gone, other, place, true));
    }

    static void end(String test) {
        System.out.println(test + ": " + made + " answers, " + wrong + " not as due");
        if (wrong != 0) {
            System.exit(1);
        }
    }
}
