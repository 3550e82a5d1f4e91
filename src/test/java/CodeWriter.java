import java.util.ArrayList;
import java.util.List;
import java.util.Random;

/** Writes code that can be linked: it knows how many values each block has. */
final class CodeWriter {
    private final Random random;
    private final Program.Part part;
    private final Program.Function own;
    private final List<Integer> functions = new ArrayList<>();
    private final List<Integer> data = new ArrayList<>();
    private final List<Integer> pairs = new ArrayList<>();
    // What a branch to each block around takes, the innermost last.
    private final List<Integer> goals = new ArrayList<>();
    private int there = 0;

    CodeWriter(Random random, Program.Part part, Program.Function own) {
        this.random = random;
        this.part = part;
        this.own = own;
        for (int i = 0; i < part.symbols.size(); i++) {
            (part.symbols.get(i).kind() == W.FUNCTION ? functions : data).add(i);
        }
    }

    /** The function, with a code. */
    Program.Function function() {
        do {
            pairs.clear();
            goals.clear();
            there = 0;
            body(own.results(), own.results(), 1 + random.nextInt(9));
        } while (pairs.size() > 2 * 60);
        int[] row = pairs.stream().mapToInt(Integer::intValue).toArray();
        return new Program.Function(own.parameters(), own.results(), own.locals(), row);
    }

    private int locals() {
        return own.parameters() + own.locals();
    }

    private int anyOf(List<Integer> symbols) {
        return symbols.get(random.nextInt(symbols.size()));
    }

    private void word(int word, int a) {
        pairs.add(word);
        pairs.add(a);
    }

    private void push() {
        there++;
        int kind = random.nextInt(9);
        if (kind == 0) {
            word(W.SIZE, random.nextInt());
        } else if (kind == 1 && !functions.isEmpty()) {
            word(W.SLOT, anyOf(functions));
        } else if (kind <= 3 && !data.isEmpty()) {
            word(W.ADDRESS, anyOf(data));
        } else if (kind >= 5 && locals() > 0) {
            word(W.GET, random.nextInt(locals()));
        } else {
            word(W.CONST, random.nextInt(4) == 0 ? random.nextInt() >> random.nextInt(32) : random.nextInt(6) - 1);
        }
    }

    private void need(int many) {
        while (there < many) {
            push();
        }
    }

    /** Writes a block's words, which leave so many values; a branch to it takes so many. */
    private void body(int leaves, int taken, int parts) {
        int outside = there;
        there = 0;
        goals.add(taken);
        boolean gone = false;
        for (int i = 0; i < parts && !gone; i++) {
            gone = part();
        }
        if (gone) {
            there = 0;
            behind();
        } else {
            need(leaves);
        }
        while (there > leaves) {
            word(W.DROP, 0);
            there--;
        }
        goals.remove(goals.size() - 1);
        there = outside + leaves;
    }

    /** Writes what nothing gets to. */
    private void behind() {
        if (random.nextInt(3) == 0) {
            word(W.ADD + random.nextInt(W.SELECT - W.ADD + 1), 0);
            there = 1;
        }
        if (random.nextInt(4) == 0 && part()) {
            there = 0;
        }
    }

    /** Writes a word or a block; whether nothing can be behind it. */
    private boolean part() {
        switch (random.nextInt(16)) {
            case 0, 1 -> block();
            case 2 -> {
                return leave();
            }
            case 3 -> {
                int away = random.nextInt(goals.size());
                need(goals.get(goals.size() - 1 - away) + 1);
                word(W.BRIF, away);
                there--;
            }
            case 4, 5 -> called();
            case 6 -> access();
            case 7 -> {
                need(1);
                word(locals() > 0 ? W.SET : W.DROP, locals() > 0 ? random.nextInt(locals()) : 0);
                there--;
            }
            case 8 -> {
                need(3);
                word(W.SELECT, 0);
                there -= 2;
            }
            case 9, 10, 11 -> push();
            default -> {
                need(2);
                word(W.ADD + random.nextInt(W.LTU - W.ADD + 1), 0);
                there--;
            }
        }
        return false;
    }

    private boolean leave() {
        int away = random.nextInt(goals.size());
        boolean returns = random.nextInt(3) == 0;
        need(goals.get(returns ? 0 : goals.size() - 1 - away));
        word(returns ? W.RETURN : W.BR, away);
        return true;
    }

    private void block() {
        int leaves = random.nextInt(2);
        int parts = random.nextInt(5);
        switch (random.nextInt(3)) {
            case 0 -> {
                word(W.BLOCK, leaves);
                body(leaves, leaves, parts);
            }
            case 1 -> {
                word(W.LOOP, leaves);
                body(leaves, 0, parts);
            }
            default -> {
                need(1);
                word(W.IF, leaves);
                there--;
                body(leaves, leaves, parts);
                if (leaves == 1 || random.nextBoolean()) {
                    there -= leaves;
                    word(W.ELSE, 0);
                    body(leaves, leaves, parts);
                }
            }
        }
        word(W.END, 0);
    }

    private void called() {
        if (functions.isEmpty()) {
            return;
        }
        int symbol = anyOf(functions);
        Program.Symbol named = part.symbols.get(symbol);
        int signature = named.definesSomething() ? part.functions.get(named.defines()).signature() : named.offset();
        need(signature / 2);
        if (random.nextInt(3) == 0) {
            int other = random.nextInt(4) == 0 ? random.nextInt(10) : signature;
            need(other / 2);
            word(W.SLOT, symbol);
            word(W.INDIRECT, other);
            there += other % 2 - other / 2;
        } else {
            word(W.CALL, symbol);
            there += signature % 2 - signature / 2;
        }
    }

    private void access() {
        int word = W.LOAD + random.nextInt(4);
        int offset = random.nextInt(4) == 0 ? random.nextInt(1001) : random.nextInt(40);
        boolean stores = word == W.STORE || word == W.STORE1;
        need(stores ? 2 : 1);
        word(word, offset);
        there -= stores ? 2 : 0;
    }
}
