import java.util.ArrayList;
import java.util.List;
import java.util.Random;

/** Promises 13 to 15: code that chance writes runs in the linker as it does in the model. */
public final class ModelTest {
    private static final int PROGRAMS = 3000;
    private static final int RUNS = 12;
    private static final int FUNCTIONS = 4;
    // Symbols 0 .. 3 mean the functions, symbol 4 means none.
    private static final int NOT_THERE = 4;
    private static final int TOLD_OF_NONE = 3;

    private static final int[] ENDS = new int[8];

    public static void main(String[] args) {
        for (int seed = 0; seed < PROGRAMS; seed++) {
            compare(seed);
        }
        for (int end = 0; end < ENDS.length; end++) {
            Check.same("runs ended with " + end + " more than 100 times", ENDS[end] > 100 ? 1 : 0, 1);
        }
        Check.end();
    }

    private static void compare(int seed) {
        Random random = new Random(seed);
        List<Model.Function> functions = new ArrayList<>();
        int[] signatures = new int[FUNCTIONS];
        for (int i = 0; i < FUNCTIONS; i++) {
            signatures[i] = random.nextInt(10);
        }
        for (int i = 0; i < FUNCTIONS; i++) {
            functions.add(new Writer(random, signatures, i).function());
        }
        ObjectLinker x = linker(functions);
        W.linked("program " + seed, x);
        int[] slots = new int[x.count(3)];
        for (int i = 0; i < FUNCTIONS; i++) {
            if (x.meant(0, i, 1) > 0) {
                slots[x.meant(0, i, 1) - 1] = i;
            }
        }
        for (int run = 0; run < RUNS; run++) {
            int fuel = random.nextInt(4) == 0 ? random.nextInt(60) : 2000;
            Model model = new Model(functions, new int[] {0, 1, 2, 3, W.NONE}, slots, fuel);
            compareRun("program " + seed + ", run " + run, x, model, run % FUNCTIONS, random, fuel);
        }
    }

    private static void compareRun(String what, ObjectLinker x, Model model, int function, Random random, int fuel) {
        long a = argument(random);
        long b = argument(random);
        int end = model.run(function, a, b);
        ENDS[end]++;
        Check.same(what + ": the end", x.run(0, function, a, b, fuel), end);
        Check.same(what + ": the value", x.told(0), model.value);
        Check.same(what + ": the steps", x.told(1), model.steps);
        Check.same(what + ": the functions", x.told(2), model.deepest);
        for (int i = 0; i < 24; i++) {
            int address = random.nextInt(64);
            Check.same(what + ": the memory", x.memory(address), model.memory[address] & 255);
        }
    }

    private static long argument(Random random) {
        return switch (random.nextInt(4)) {
            case 0 -> random.nextInt(5);
            case 1 -> random.nextLong();
            case 2 -> -random.nextInt(3);
            default -> random.nextInt(1100);
        };
    }

    private static ObjectLinker linker(List<Model.Function> functions) {
        ObjectLinker x = W.objects(1);
        for (int i = 0; i < functions.size(); i++) {
            Model.Function function = functions.get(i);
            W.function(x, 0, function.parameters(), function.results(), function.locals(), function.pairs());
            x.symbol(0, i, W.FUNCTION, W.STRONG, i, 0);
        }
        x.symbol(0, NOT_THERE, W.FUNCTION, W.WEAK, W.NONE, TOLD_OF_NONE);
        return x;
    }

    /** Writes code that can be linked: it knows how many values each block has. */
    private static final class Writer {
        final Random random;
        final int[] signatures;
        final int own;
        final int locals;
        final List<Integer> pairs = new ArrayList<>();
        // What a branch to each block around takes, the innermost last.
        final List<Integer> goals = new ArrayList<>();
        int there = 0;

        Writer(Random random, int[] signatures, int own) {
            this.random = random;
            this.signatures = signatures;
            this.own = own;
            this.locals = 1 + random.nextInt(3);
        }

        Model.Function function() {
            int parameters = signatures[own] / 2;
            int results = signatures[own] % 2;
            do {
                pairs.clear();
                goals.clear();
                there = 0;
                body(results, results, 2 + random.nextInt(9));
            } while (pairs.size() > 120);
            int[] row = pairs.stream().mapToInt(Integer::intValue).toArray();
            return new Model.Function(parameters, results, locals, row);
        }

        private void word(int word, int a) {
            pairs.add(word);
            pairs.add(a);
        }

        private void push() {
            there++;
            switch (random.nextInt(8)) {
                case 0 -> word(W.SIZE, 0);
                case 1 -> word(W.SLOT, random.nextInt(5));
                case 2, 3 -> word(W.CONST, random.nextInt(6) - 1);
                default -> word(W.GET, random.nextInt(signatures[own] / 2 + locals));
            }
        }

        private void need(int many) {
            while (there < many) {
                push();
            }
        }

        /** Writes a block's words, which leave so many values; a branch to it takes so many. */
        private void body(int leaves, int taken, int parts) {
            int outside = there;
            there = 0;
            goals.add(taken);
            boolean gone = false;
            for (int i = 0; i < parts && !gone; i++) {
                gone = part();
            }
            if (!gone) {
                need(leaves);
                while (there > leaves) {
                    word(W.DROP, 0);
                    there--;
                }
            }
            goals.remove(goals.size() - 1);
            there = outside + leaves;
        }

        /** Writes a word or a block; whether nothing can be behind it. */
        private boolean part() {
            switch (random.nextInt(16)) {
                case 0, 1 -> block();
                case 2 -> {
                    return leave();
                }
                case 3 -> {
                    int away = random.nextInt(goals.size());
                    need(goals.get(goals.size() - 1 - away) + 1);
                    word(W.BRIF, away);
                    there--;
                }
                case 4, 5 -> called();
                case 6 -> access();
                case 7 -> {
                    need(1);
                    word(W.SET, random.nextInt(signatures[own] / 2 + locals));
                    there--;
                }
                case 8 -> {
                    need(3);
                    word(W.SELECT, 0);
                    there -= 2;
                }
                case 9, 10, 11 -> push();
                default -> {
                    need(2);
                    word(W.ADD + random.nextInt(W.LTU - W.ADD + 1), 0);
                    there--;
                }
            }
            return false;
        }

        private boolean leave() {
            int away = random.nextInt(goals.size());
            boolean returns = random.nextInt(3) == 0;
            need(goals.get(returns ? 0 : goals.size() - 1 - away));
            word(returns ? W.RETURN : W.BR, away);
            if (random.nextInt(3) == 0) {
                word(W.ADD, 0);
                word(W.DROP, 0);
            }
            return true;
        }

        private void block() {
            int leaves = random.nextInt(2);
            int parts = random.nextInt(5);
            switch (random.nextInt(3)) {
                case 0 -> {
                    word(W.BLOCK, leaves);
                    body(leaves, leaves, parts);
                }
                case 1 -> {
                    word(W.LOOP, leaves);
                    body(leaves, 0, parts);
                }
                default -> {
                    need(1);
                    word(W.IF, leaves);
                    there--;
                    body(leaves, leaves, parts);
                    if (leaves == 1 || random.nextBoolean()) {
                        there -= leaves;
                        word(W.ELSE, 0);
                        body(leaves, leaves, parts);
                    }
                }
            }
            word(W.END, 0);
        }

        private void called() {
            int symbol = random.nextInt(5);
            int signature = symbol == NOT_THERE ? TOLD_OF_NONE : signatures[symbol];
            need(signature / 2);
            if (random.nextInt(3) == 0) {
                int other = random.nextInt(4) == 0 ? random.nextInt(10) : signature;
                need(other / 2);
                word(W.SLOT, symbol);
                word(W.INDIRECT, other);
                there += other % 2 - other / 2;
            } else {
                word(W.CALL, symbol);
                there += signature % 2 - signature / 2;
            }
        }

        private void access() {
            int word = W.LOAD + random.nextInt(4);
            int offset = random.nextInt(4) == 0 ? random.nextInt(1001) : random.nextInt(40);
            boolean stores = word == W.STORE || word == W.STORE1;
            need(stores ? 2 : 1);
            word(word, offset);
            there -= stores ? 2 : 0;
        }
    }
}
