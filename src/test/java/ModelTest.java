import java.util.List;
import java.util.Random;

/** Promises 8 to 15: programs that chance writes are linked and run as by PlainLinker and Model. */
public final class ModelTest {
    private static final int PROGRAMS = 3000;
    private static final int RUNS = 8;
    private static final int BYTES_LOOKED_AT = 24;
    // An object is used for at most 512 calls: those that make the program and link it, and what is asked then.
    private static final int CALLS_OF_PROGRAM = 281;
    private static final int CALLS_OF_ANSWERS = 230;

    private static final int[] FAULTS = new int[8];
    private static final int[] ENDS = new int[8];

    public static void main(String[] args) {
        for (int seed = 0; seed < PROGRAMS; seed++) {
            Random random = new Random(seed);
            compare("program " + seed, ProgramWriter.written(random, CALLS_OF_PROGRAM), random);
        }
        for (int i = 0; i < 8; i++) {
            Check.same("fault " + i + " was met more than 20 times", FAULTS[i] > 20 ? 1 : 0, 1);
            Check.same("runs ended with " + i + " more than 100 times", ENDS[i] > 100 ? 1 : 0, 1);
        }
        Check.end();
    }

    private static void compare(String what, Program program, Random random) {
        PlainLinker plain = new PlainLinker(program);
        FAULTS[plain.fault]++;
        ObjectLinker x = program.linker();
        W.faulty(what, x, plain.fault, plain.place);
        if (plain.fault == 0) {
            compareCounts(what, x, plain);
            compareMeant(what, x, plain, program);
            compareBytes(what, plain, program);
            compareRuns(what, plain, program, random);
        }
    }

    private static void compareCounts(String what, ObjectLinker x, PlainLinker plain) {
        Check.same(what + ": bytes", x.count(0), plain.bytes().size());
        Check.same(what + ": functions", x.count(1), plain.functions().size());
        Check.same(what + ": types", x.count(2), plain.types().size());
        Check.same(what + ": slots", x.count(3), plain.slots().size());
        Check.same(what + ": behind the segments", x.count(4), plain.behindSegments());
    }

    private static void compareMeant(String what, ObjectLinker x, PlainLinker plain, Program program) {
        for (int object = 0; object < program.parts.size(); object++) {
            for (int i = 0; i < program.parts.get(object).symbols.size(); i++) {
                PlainLinker.At at = new PlainLinker.At(object, i);
                boolean data = plain.symbol(at).kind() == W.DATA;
                String text = what + ": meant by " + at;
                Check.same(text, x.meant(object, i, 0), data ? plain.address(at) : plain.numberOf(plain.target(at)));
                Check.same(text + ", slot", x.meant(object, i, 1), data ? 0 : plain.slotOf(plain.target(at)));
            }
        }
    }

    private static void compareBytes(String what, PlainLinker plain, Program program) {
        List<Integer> due = plain.bytes();
        ObjectLinker x = null;
        for (int i = 0; i < due.size(); i++) {
            if (i % CALLS_OF_ANSWERS == 0) {
                x = program.linker();
                x.link();
            }
            Check.same(what + ": byte " + i, x.byteAt(i), due.get(i));
        }
    }

    private static void compareRuns(String what, PlainLinker plain, Program program, Random random) {
        List<PlainLinker.At> functions = plain.functions();
        ObjectLinker x = program.linker();
        x.link();
        for (int run = 0; run < RUNS && !functions.isEmpty(); run++) {
            int fuel = random.nextInt(4) == 0 ? random.nextInt(60) : 2000;
            PlainLinker.At first = functions.get(run % functions.size());
            compareRun(what + ", run " + run, x, new Model(plain, fuel), first, random, fuel);
        }
    }

    private static void compareRun(String what, ObjectLinker x, Model model, PlainLinker.At first, Random random, int fuel) {
        long a = argument(random);
        long b = argument(random);
        int end = model.run(first, a, b);
        ENDS[end]++;
        Check.same(what + ": the end", x.run(first.object(), first.number(), a, b, fuel), end);
        Check.same(what + ": the value", x.told(0), model.value);
        Check.same(what + ": the steps", x.told(1), model.steps);
        Check.same(what + ": the functions", x.told(2), model.deepest);
        for (int i = 0; i < BYTES_LOOKED_AT; i++) {
            int address = random.nextInt(random.nextInt(3) == 0 ? 1024 : 64);
            Check.same(what + ": the memory", x.memory(address), model.memory[address] & 255);
        }
    }

    private static long argument(Random random) {
        return switch (random.nextInt(4)) {
            case 0 -> random.nextInt(5);
            case 1 -> random.nextLong();
            case 2 -> -random.nextInt(3);
            default -> random.nextInt(1100);
        };
    }
}
