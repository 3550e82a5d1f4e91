import java.util.ArrayList;
import java.util.Collections;
import java.util.List;
import java.util.Random;

/** Writes programs by chance: most can be linked, the others have a fault, or several. */
final class ProgramWriter {
    // Few names, so that symbols of several objects have the same one; the first of them are of data.
    private static final int NAMES = 9;
    private static final int DATA_NAMES = 3;

    private final Random random;
    private final Program program = new Program();
    // What symbols with a name mostly tell of their functions.
    private final int[] signatures = new int[NAMES];
    private final boolean[] strong = new boolean[NAMES];
    private final boolean[] defined = new boolean[NAMES];

    private ProgramWriter(Random random) {
        this.random = random;
    }

    /** A program that no more than so many calls make. */
    static Program written(Random random, int calls) {
        ProgramWriter writer;
        do {
            writer = new ProgramWriter(random);
            writer.write();
        } while (writer.program.calls() > calls);
        return writer.program;
    }

    private boolean chance(int percent) {
        return random.nextInt(100) < percent;
    }

    private void write() {
        boolean crowded = chance(6);
        int objects = crowded ? 4 + random.nextInt(3) : 1 + random.nextInt(4);
        for (int i = 0; i < NAMES; i++) {
            signatures[i] = random.nextInt(10);
        }
        for (int i = 0; i < objects; i++) {
            Program.Part part = new Program.Part();
            program.parts.add(part);
            declareFunctions(part, random.nextInt(objects > 2 ? 3 : 4));
            declareSegments(part, crowded ? 4 : random.nextInt(4), crowded ? 50 : 1);
        }
        for (Program.Part part : program.parts) {
            refer(part, random.nextInt(6));
            Collections.shuffle(part.symbols, random);
        }
        if (chance(15)) {
            spoilSymbol();
        }
        for (Program.Part part : program.parts) {
            for (int i = 0; i < part.functions.size(); i++) {
                part.functions.set(i, new CodeWriter(random, part, part.functions.get(i)).function());
            }
        }
        if (chance(20)) {
            spoilCode();
        }
    }

    private int binding(int name) {
        int percent = random.nextInt(100);
        if (percent < 20) {
            return W.LOCAL;
        }
        defined[name] = true;
        if (percent < 50 || strong[name] && !chance(2)) {
            return W.WEAK;
        }
        strong[name] = true;
        return W.STRONG;
    }

    private void declareFunctions(Program.Part part, int many) {
        for (int i = 0; i < many; i++) {
            int name = DATA_NAMES + random.nextInt(NAMES - DATA_NAMES);
            int signature = chance(2) ? random.nextInt(10) : signatures[name];
            part.functions.add(new Program.Function(signature / 2, signature % 2, random.nextInt(4), new int[0]));
            if (chance(85)) {
                part.symbols.add(new Program.Symbol(name, W.FUNCTION, binding(name), i, 0));
            }
        }
    }

    private void declareSegments(Program.Part part, int many, int least) {
        for (int i = 0; i < many; i++) {
            byte[] bytes = new byte[least + random.nextInt(65 - least)];
            if (chance(70)) {
                random.nextBytes(bytes);
            }
            part.segments.add(new Program.Segment(random.nextInt(5), bytes));
            if (chance(80)) {
                int name = random.nextInt(DATA_NAMES);
                int offset = random.nextInt(bytes.length + 1);
                part.symbols.add(new Program.Symbol(name, W.DATA, binding(name), i, offset));
            }
        }
    }

    private void refer(Program.Part part, int many) {
        for (int i = 0; i < many; i++) {
            int name = random.nextInt(NAMES);
            int kind = name < DATA_NAMES ? W.DATA : W.FUNCTION;
            int told = chance(2) ? random.nextInt(10) : signatures[name];
            int binding = chance(50) && (defined[name] || chance(2)) ? W.STRONG : W.WEAK;
            part.symbols.add(new Program.Symbol(name, kind, binding, W.NONE, kind == W.DATA ? 0 : told));
        }
    }

    /** Another name, another binding, or nothing instead of what is defined. */
    private void spoilSymbol() {
        Program.Part part = program.parts.get(random.nextInt(program.parts.size()));
        if (part.symbols.isEmpty()) {
            return;
        }
        int at = random.nextInt(part.symbols.size());
        Program.Symbol old = part.symbols.get(at);
        part.symbols.set(at, switch (random.nextInt(3)) {
            case 0 -> new Program.Symbol(random.nextInt(chance(80) ? NAMES : 31), old.kind(), old.binding(), old.defines(), old.offset());
            case 1 -> new Program.Symbol(random.nextInt(NAMES), old.kind(), random.nextInt(3), old.defines(), old.offset());
            default -> new Program.Symbol(old.name(), old.kind(), random.nextInt(3), W.NONE, 0);
        });
    }

    /** Another number, another word, or one word less in a function's code. */
    private void spoilCode() {
        Program.Part part = program.parts.get(random.nextInt(program.parts.size()));
        for (int i = 0; i < part.functions.size(); i++) {
            Program.Function old = part.functions.get(i);
            if (old.words() > 0 && chance(60)) {
                int at = random.nextInt(old.words());
                int[] pairs = old.pairs().clone();
                switch (random.nextInt(3)) {
                    case 0 -> pairs[2 * at + 1] = new int[] {-1, 0, 1, 2, 9, 10, 30, 31, 1000, 1001}[random.nextInt(10)];
                    case 1 -> pairs[2 * at] = random.nextInt(36);
                    default -> pairs = without(pairs, at);
                }
                part.functions.set(i, new Program.Function(old.parameters(), old.results(), old.locals(), pairs));
            }
        }
    }

    private static int[] without(int[] pairs, int at) {
        List<Integer> left = new ArrayList<>();
        for (int i = 0; i < pairs.length; i++) {
            if (i / 2 != at) {
                left.add(pairs[i]);
            }
        }
        return left.stream().mapToInt(Integer::intValue).toArray();
    }
}
