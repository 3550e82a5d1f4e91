import java.util.ArrayList;
import java.util.Arrays;
import java.util.LinkedHashSet;
import java.util.List;
import java.util.Set;

/** Links a program as plainly as the document tells it: whatever is asked is looked for anew in the program. */
final class PlainLinker {
    /** A function or a symbol, by the object that has it and its number there. */
    record At(int object, int number) {
    }

    /** A word that is wrong, by its place. */
    private static final class Wrong extends RuntimeException {
        private static final long serialVersionUID = 1;
        final int place;

        Wrong(int place) {
            super("wrong", null, false, false);
            this.place = place;
        }
    }

    private final Program program;
    final int fault;
    final int place;

    PlainLinker(Program program) {
        this.program = program;
        int[] places = {wrongNumber(), wrongCode(), doubled(), missing(), otherKind(), otherSignature(),
            behindSegments() > 1024 ? 0 : W.NONE};
        int first = 0;
        while (first < places.length && places[first] == W.NONE) {
            first++;
        }
        fault = first == places.length ? 0 : first + 1;
        place = fault == 0 ? W.NONE : places[first];
    }

    List<At> functions() {
        List<At> all = new ArrayList<>();
        for (int object = 0; object < program.parts.size(); object++) {
            for (int i = 0; i < program.parts.get(object).functions.size(); i++) {
                all.add(new At(object, i));
            }
        }
        return all;
    }

    private List<At> symbols() {
        List<At> all = new ArrayList<>();
        for (int object = 0; object < program.parts.size(); object++) {
            for (int i = 0; i < program.parts.get(object).symbols.size(); i++) {
                all.add(new At(object, i));
            }
        }
        return all;
    }

    Program.Function function(At at) {
        return program.parts.get(at.object).functions.get(at.number);
    }

    Program.Symbol symbol(At at) {
        return program.parts.get(at.object).symbols.get(at.number);
    }

    // ---- the faults ----

    private int wrongNumber() {
        for (At at : functions()) {
            for (int i = 0; i < function(at).words(); i++) {
                if (!numberFits(at, function(at).word(i), function(at).number(i))) {
                    return 1000 * at.object + 100 * at.number + i;
                }
            }
        }
        return W.NONE;
    }

    private boolean numberFits(At at, int word, int a) {
        return switch (word) {
            case W.GET, W.SET -> 0 <= a && a < function(at).parameters() + function(at).locals();
            case W.LOAD, W.STORE, W.LOAD1, W.STORE1 -> 0 <= a && a <= 1000;
            case W.BLOCK, W.LOOP, W.IF -> a == 0 || a == 1;
            case W.INDIRECT -> 0 <= a && a <= 9;
            case W.BR, W.BRIF -> 0 <= a && a <= 30;
            case W.CALL, W.SLOT -> hasSymbol(at.object, a, W.FUNCTION);
            case W.ADDRESS -> hasSymbol(at.object, a, W.DATA);
            default -> true;
        };
    }

    private boolean hasSymbol(int object, int a, int kind) {
        List<Program.Symbol> symbols = program.parts.get(object).symbols;
        return 0 <= a && a < symbols.size() && symbols.get(a).kind() == kind;
    }

    private int wrongCode() {
        // Fault 1 comes before it, and without that fault no number can lead out of the program here.
        if (wrongNumber() != W.NONE) {
            return W.NONE;
        }
        for (At at : functions()) {
            try {
                new Walk(at).block(0, function(at).results(), List.of(), function(at).results());
            } catch (Wrong e) {
                return 1000 * at.object + 100 * at.number + e.place;
            }
        }
        return W.NONE;
    }

    /** Goes through a function's code, each block within the one around it. */
    private final class Walk {
        final At at;
        final Program.Function function;

        Walk(At at) {
            this.at = at;
            this.function = function(at);
        }

        /** Looks at a block's words from a place on; where the END or ELSE is (or the code's end) that ends them. */
        int block(int from, int leaves, List<Integer> around, int taken) {
            List<Integer> goals = new ArrayList<>(around);
            goals.add(0, taken);
            int there = 0;
            boolean gone = false;
            int i = from;
            while (i < function.words() && function.word(i) != W.END && function.word(i) != W.ELSE) {
                int word = function.word(i);
                int a = function.number(i);
                if (word == W.BR || word == W.BRIF) {
                    require(a < goals.size(), i);
                }
                int pops = pops(word, a, goals);
                require(gone || there >= pops, i);
                there = Math.max(0, there - pops) + pushes(word, a, goals);
                if (word == W.BR || word == W.RETURN) {
                    gone = true;
                    there = 0;
                }
                i = (word == W.BLOCK || word == W.LOOP || word == W.IF ? inner(i, goals) : i) + 1;
            }
            require((i == function.words()) == around.isEmpty(), i);
            require(there == leaves || gone && there < leaves, i);
            return i;
        }

        /** Looks at the block that is opened at a place; where its END is. */
        private int inner(int opener, List<Integer> goals) {
            int leaves = function.number(opener);
            int taken = function.word(opener) == W.LOOP ? 0 : leaves;
            int end = block(opener + 1, leaves, goals, taken);
            if (function.word(end) == W.ELSE) {
                require(function.word(opener) == W.IF, end);
                end = block(end + 1, leaves, goals, taken);
                require(function.word(end) == W.END, end);
            } else {
                require(function.word(opener) != W.IF || leaves == 0, end);
            }
            return end;
        }

        private int pops(int word, int a, List<Integer> goals) {
            return switch (word) {
                case W.SET, W.DROP, W.LOAD, W.LOAD1, W.IF -> 1;
                case W.STORE, W.STORE1 -> 2;
                case W.SELECT -> 3;
                case W.BR -> goals.get(a);
                case W.BRIF -> goals.get(a) + 1;
                case W.RETURN -> function.results();
                case W.CALL -> tells(symbol(new At(at.object, a)), at.object) / 2;
                case W.INDIRECT -> a / 2 + 1;
                default -> W.ADD <= word && word <= W.LTU ? 2 : 0;
            };
        }

        private int pushes(int word, int a, List<Integer> goals) {
            return switch (word) {
                case W.CONST, W.GET, W.SELECT, W.LOAD, W.LOAD1, W.ADDRESS, W.SLOT, W.SIZE -> 1;
                case W.BLOCK, W.LOOP, W.IF -> a;
                case W.BRIF -> goals.get(a);
                case W.CALL -> tells(symbol(new At(at.object, a)), at.object) % 2;
                case W.INDIRECT -> a % 2;
                default -> W.ADD <= word && word <= W.LTU ? 1 : 0;
            };
        }

        private void require(boolean holds, int place) {
            if (!holds) {
                throw new Wrong(place);
            }
        }
    }

    /** The parameters and results that a symbol of a function tells, as one number. */
    private int tells(Program.Symbol symbol, int object) {
        return symbol.definesSomething() ? function(new At(object, symbol.defines())).signature() : symbol.offset();
    }

    private int doubled() {
        Set<Integer> names = new LinkedHashSet<>();
        for (At at : symbols()) {
            Program.Symbol symbol = symbol(at);
            if (symbol.binding() == W.STRONG && symbol.definesSomething() && !names.add(symbol.name())) {
                return 100 * at.object + at.number;
            }
        }
        return W.NONE;
    }

    private int missing() {
        for (At at : symbols()) {
            Program.Symbol symbol = symbol(at);
            boolean defined = symbols().stream().map(this::symbol).anyMatch(
                    other -> !other.isLocal() && other.definesSomething() && other.name() == symbol.name());
            boolean lacks = symbol.isLocal() || symbol.binding() == W.STRONG && !defined;
            if (!symbol.definesSomething() && lacks) {
                return 100 * at.object + at.number;
            }
        }
        return W.NONE;
    }

    private int otherKind() {
        int[] kinds = new int[31];
        Arrays.fill(kinds, W.NONE);
        for (At at : symbols()) {
            Program.Symbol symbol = symbol(at);
            if (symbol.isLocal()) {
                continue;
            }
            if (kinds[symbol.name()] == W.NONE) {
                kinds[symbol.name()] = symbol.kind();
            }
            if (kinds[symbol.name()] != symbol.kind()) {
                return 100 * at.object + at.number;
            }
        }
        return W.NONE;
    }

    private int otherSignature() {
        if (wrongNumber() != W.NONE || otherKind() != W.NONE) {
            return W.NONE;
        }
        for (At at : functions()) {
            for (int i = 0; i < function(at).words(); i++) {
                if (function(at).word(i) == W.CALL) {
                    At named = new At(at.object, function(at).number(i));
                    At target = target(named);
                    if (target != null && function(target).signature() != tells(symbol(named), at.object)) {
                        return 1000 * at.object + 100 * at.number + i;
                    }
                }
            }
        }
        return W.NONE;
    }

    // ---- who is meant, and where it is ----

    /** The symbol whose definition is meant. */
    private At definer(At at) {
        Program.Symbol asked = symbol(at);
        if (asked.isLocal()) {
            return asked.definesSomething() ? at : null;
        }
        for (int binding : new int[] {W.STRONG, W.WEAK}) {
            for (At other : symbols()) {
                Program.Symbol symbol = symbol(other);
                if (symbol.binding() == binding && symbol.definesSomething() && symbol.name() == asked.name()) {
                    return other;
                }
            }
        }
        return null;
    }

    /** The function that a symbol means, or null. */
    At target(At at) {
        At definer = definer(at);
        return definer == null ? null : new At(definer.object, symbol(definer).defines());
    }

    int address(At at) {
        At definer = definer(at);
        return definer == null ? 0 : start(definer.object, symbol(definer).defines()) + symbol(definer).offset();
    }

    /** How many functions stand before a function; NONE for none. */
    int numberOf(At function) {
        return function == null ? W.NONE : functions().indexOf(function);
    }

    int slotOf(At function) {
        return slots().indexOf(function) + 1;
    }

    int start(int object, int segment) {
        return around(object, segment)[0];
    }

    int behindSegments() {
        return around(program.parts.size(), 0)[1];
    }

    /** Where a segment begins, and where the one before it ends. */
    private int[] around(int object, int segment) {
        int end = 16;
        for (int i = 0; i < program.parts.size(); i++) {
            List<Program.Segment> segments = program.parts.get(i).segments;
            for (int k = 0; k < segments.size(); k++) {
                int start = end;
                while (start % (int) Math.pow(2, segments.get(k).power()) != 0) {
                    start++;
                }
                if (i == object && k == segment) {
                    return new int[] {start, end};
                }
                end = start + segments.get(k).bytes().length;
            }
        }
        return new int[] {W.NONE, end};
    }

    byte[] memory() {
        byte[] memory = new byte[1024];
        for (int i = 0; i < program.parts.size(); i++) {
            List<Program.Segment> segments = program.parts.get(i).segments;
            for (int k = 0; k < segments.size(); k++) {
                byte[] bytes = segments.get(k).bytes();
                System.arraycopy(bytes, 0, memory, start(i, k), bytes.length);
            }
        }
        return memory;
    }

    /** The function in each slot, that of slot 1 first. */
    List<At> slots() {
        Set<At> slots = new LinkedHashSet<>();
        for (At at : functions()) {
            for (int i = 0; i < function(at).words(); i++) {
                if (function(at).word(i) == W.SLOT) {
                    At target = target(new At(at.object, function(at).number(i)));
                    if (target != null) {
                        slots.add(target);
                    }
                }
            }
        }
        return new ArrayList<>(slots);
    }

    List<Integer> types() {
        Set<Integer> types = new LinkedHashSet<>();
        functions().forEach(at -> types.add(function(at).signature()));
        for (At at : functions()) {
            for (int i = 0; i < function(at).words(); i++) {
                if (function(at).word(i) == W.INDIRECT) {
                    types.add(function(at).number(i));
                }
            }
        }
        return new ArrayList<>(types);
    }

    List<Integer> bytes() {
        return new PlainBytes(this, program).module();
    }
}
