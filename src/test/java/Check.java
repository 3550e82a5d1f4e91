import java.util.function.LongSupplier;

/** Counts the answers that are not as due. */
final class Check {
    private static int wrong = 0;
    private static int asked = 0;

    private Check() {
    }

    static void same(String what, long got, long due) {
        asked++;
        if (got != due) {
            tell(what + " answered " + got + ", due is " + due);
        }
    }

    static void argument(String what, LongSupplier call) {
        thrown(what, call, IllegalArgumentException.class);
    }

    static void state(String what, LongSupplier call) {
        thrown(what, call, IllegalStateException.class);
    }

    private static void thrown(String what, LongSupplier call, Class<?> due) {
        asked++;
        try {
            tell(what + " answered " + call.getAsLong() + ", due is " + due.getSimpleName());
        } catch (RuntimeException e) {
            if (e.getClass() != due) {
                tell(what + " threw " + e + ", due is " + due.getSimpleName());
            }
        }
    }

    private static void tell(String line) {
        wrong++;
        System.out.println(line);
    }

    /** Every test's main method ends with this. */
    static void end() {
        System.out.println(asked + " answers looked at, " + wrong + " wrong");
        if (wrong != 0 || asked == 0) {
            System.exit(1);
        }
    }
}
