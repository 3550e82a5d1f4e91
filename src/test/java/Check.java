import java.util.function.IntToLongFunction;
import java.util.function.LongSupplier;

/** Counts the answers that are not as due. */
final class Check {
    private static int wrong = 0;
    private static int asked = 0;

    private Check() {
    }

    static void same(String what, long got, long due) {
        asked++;
        if (got != due) {
            tell(what + " answered " + got + ", due is " + due);
        }
    }

    static void argument(String what, LongSupplier call) {
        thrown(what, call, IllegalArgumentException.class);
    }

    static void state(String what, LongSupplier call) {
        thrown(what, call, IllegalStateException.class);
    }

    static void text(String what, String got, String due) {
        asked++;
        if (!got.equals(due)) {
            tell(what + " answered\n " + got + "\ndue is\n " + due);
        }
    }

    /** The call takes the numbers from least to most, and throws illegal argument for all others. */
    static void bounds(String what, int least, int most, IntToLongFunction call) {
        for (int number = least; number <= most; number++) {
            int taken = number;
            text(what + " " + number, outcome(() -> call.applyAsLong(taken) * 0), "0");
        }
        int[] others = {Integer.MIN_VALUE, Integer.MIN_VALUE + 1, -256, least - 1, most + 1, most + 256, Integer.MAX_VALUE};
        for (int number : others) {
            argument(what + " " + number, () -> call.applyAsLong(number));
        }
    }

    /** The answer, or the name of what was thrown. */
    static String outcome(LongSupplier call) {
        try {
            return Long.toString(call.getAsLong());
        } catch (RuntimeException e) {
            return e.getClass().getSimpleName();
        }
    }

    private static void thrown(String what, LongSupplier call, Class<?> due) {
        asked++;
        try {
            tell(what + " answered " + call.getAsLong() + ", due is " + due.getSimpleName());
        } catch (RuntimeException e) {
            if (e.getClass() != due) {
                tell(what + " threw " + e + ", due is " + due.getSimpleName());
            }
        }
    }

    private static void tell(String line) {
        wrong++;
        System.out.println(line);
    }

    /** Every test's main method ends with this. */
    static void end() {
        System.out.println(asked + " answers looked at, " + wrong + " wrong");
        if (wrong != 0 || asked == 0) {
            System.exit(1);
        }
    }
}
