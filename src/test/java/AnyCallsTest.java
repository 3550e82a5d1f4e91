import java.util.Random;

/**
 * Any calls in any state: only the two exceptions of the document come out, the same calls get the same
 * answers, and a call that throws changes nothing that can be asked for.
 */
public final class AnyCallsTest {
    private static final int RUNS = 300;
    private static final int CALLS = 512;
    private static final int THROWN = 1;

    public static void main(String[] args) {
        for (int run = 0; run < RUNS; run++) {
            anyCalls(run);
        }
        moreThanTheDocumentCounts();
        Check.end();
    }

    private static void anyCalls(int run) {
        ObjectLinker x = new ObjectLinker();
        ObjectLinker y = new ObjectLinker();
        Random random = new Random(run);
        for (int call = 0; call < CALLS; call++) {
            int[] numbers = new int[7];
            for (int i = 0; i < numbers.length; i++) {
                numbers[i] = number(random);
            }
            int which = random.nextInt(40);
            String before = call % 64 == 0 ? state(x) : null;
            long first = answer(x, which, numbers);
            long second = answer(y, which, numbers);
            Check.same("the same call " + which + " of run " + run, first, second);
            if (before != null && first >> 60 == THROWN) {
                Check.same("call " + which + " of run " + run + " changed nothing", state(x).equals(before) ? 1 : 0, 1);
            }
        }
    }

    private static int number(Random random) {
        int kind = random.nextInt(20);
        return kind == 0 ? random.nextInt() : kind == 1 ? -1 : kind < 6 ? random.nextInt(36) : random.nextInt(3);
    }

    /** The answer, or a number that stands for the exception. */
    private static long answer(ObjectLinker x, int which, int[] n) {
        try {
            return call(x, which, n) & ((1L << 60) - 1);
        } catch (IllegalArgumentException e) {
            return (long) THROWN << 60;
        } catch (IllegalStateException e) {
            return ((long) THROWN << 60) + 1;
        } catch (RuntimeException e) {
            Check.same("call " + which + " threw " + e, 0, 1);
            return -1;
        }
    }

    private static long call(ObjectLinker x, int which, int[] n) {
        switch (which) {
            case 0:
                return x.object();
            case 1:
                return x.function(n[0], n[1], n[2] % 2, n[3]);
            case 2:
                return x.segment(n[0], n[1], n[2]);
            case 3:
                x.fill(n[0], n[1], n[2], n[3] * 0x123456789abcdL);
                return 0;
            case 4:
                return x.symbol(n[0], n[1], n[2] % 2, n[3], n[4] - 1, n[5]);
            case 5:
            case 6:
                return x.link() * 100000L + x.place();
            case 7:
                return x.count(n[0]);
            case 8:
                return x.byteAt(n[0]);
            case 9:
                return x.meant(n[0], n[1], n[2]);
            case 10:
            case 11:
                return x.run(n[0], n[1], n[2], n[3], n[4]);
            case 12:
                return x.told(n[0]);
            case 13:
                return x.memory(n[0]);
            default:
                return x.code(n[0], n[1], n[2] % 2 == 0 ? n[3] * 7 % 36 : n[3], n[4]);
        }
    }

    private static String state(ObjectLinker x) {
        StringBuilder text = new StringBuilder();
        text.append(x.place());
        for (int what = 0; what < 3; what++) {
            text.append(' ').append(x.told(what));
        }
        for (int address = 0; address < 1024; address++) {
            text.append(' ').append(x.memory(address));
        }
        try {
            text.append(W.bytes(x));
            for (int what = 0; what < 5; what++) {
                text.append(' ').append(x.count(what));
            }
        } catch (IllegalStateException e) {
            text.append(" nothing is linked");
        }
        return text.toString();
    }

    /** What an object answers behind its 512th call is free, but it must go on. */
    private static void moreThanTheDocumentCounts() {
        ObjectLinker x = W.objects(6);
        for (int object = 0; object < 6; object++) {
            for (int i = 0; i < 8; i++) {
                x.function(object, 4, 1, 4);
                for (int k = 0; k < 59; k++) {
                    x.code(object, i, k == 0 ? W.GET : k == 1 ? W.RETURN : W.INDIRECT, k < 2 ? 0 : 8);
                }
            }
        }
        W.linked("full", x);
        Check.same("how many bytes", x.count(0), 8 + 18 + 2 + 49 + 6 + 5 + 1 + 3 + 1 + 48 * (2 + 1 + 2 + 2 + 1 + 57 * 8 + 1));
        Check.same("a run", x.run(5, 7, 3, 4, 2000), 0);
    }
}
