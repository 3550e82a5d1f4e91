import java.util.ArrayDeque;
import java.util.ArrayList;
import java.util.Deque;
import java.util.List;

/**
 * Runs what a PlainLinker linked, as plainly as the document tells it: each block and each call has a stack of
 * its own, and its END is looked for whenever it is needed.
 */
final class Model {
    /** How a run ended before it returned. */
    private static final class Ended extends RuntimeException {
        private static final long serialVersionUID = 1;
        final int end;

        Ended(int end) {
            super("ended", null, false, false);
            this.end = end;
        }
    }

    private final PlainLinker linked;
    private final List<PlainLinker.At> slots;
    private final int fuel;
    final byte[] memory;
    int steps = 0;
    int deepest = 0;
    long value = 0;

    Model(PlainLinker linked, int fuel) {
        this.linked = linked;
        this.slots = linked.slots();
        this.memory = linked.memory();
        this.fuel = fuel;
    }

    int run(PlainLinker.At at, long x, long y) {
        Program.Function first = linked.function(at);
        long[] given = {x, y, 0, 0};
        Deque<Long> stack = new ArrayDeque<>();
        for (int i = 0; i < first.parameters(); i++) {
            stack.push(given[i]);
        }
        try {
            call(at, stack, 1);
        } catch (Ended e) {
            return e.end;
        }
        value = first.results() == 0 ? 0 : stack.pop();
        return 0;
    }

    private void call(PlainLinker.At at, Deque<Long> outside, int depth) {
        if (depth > 40) {
            throw new Ended(6);
        }
        deepest = Math.max(deepest, depth);
        Program.Function function = linked.function(at);
        long[] locals = new long[function.parameters() + function.locals()];
        for (int i = function.parameters() - 1; i >= 0; i--) {
            locals[i] = outside.pop();
        }
        List<Long> left = new Frame(at, locals, depth).all();
        if (function.results() == 1) {
            outside.push(left.get(left.size() - 1));
        }
    }

    /** One call of a function. */
    private final class Frame {
        final int object;
        final Program.Function function;
        final long[] locals;
        final int depth;
        // What a branch goes with, while it is on its way to its goal.
        List<Long> taken = new ArrayList<>();

        Frame(PlainLinker.At at, long[] locals, int depth) {
            this.object = at.object();
            this.function = linked.function(at);
            this.locals = locals;
            this.depth = depth;
        }

        int word(int at) {
            return function.word(at);
        }

        int number(int at) {
            return function.number(at);
        }

        List<Long> all() {
            Deque<Long> stack = new ArrayDeque<>();
            int away = between(0, function.words(), stack);
            return away < 0 ? values(stack) : taken;
        }

        private List<Long> values(Deque<Long> stack) {
            List<Long> row = new ArrayList<>();
            stack.descendingIterator().forEachRemaining(row::add);
            return row;
        }

        /** Does the words of one block; how many blocks around a branch leaves yet, or -1 without one. */
        private int between(int from, int until, Deque<Long> stack) {
            int at = from;
            while (at < until) {
                count();
                int word = word(at);
                if (word == W.BLOCK || word == W.LOOP || word == W.IF) {
                    int away = block(at, stack);
                    if (away >= 0) {
                        return away;
                    }
                    at = partner(at, W.END) + 1;
                } else if (word == W.BR || word == W.RETURN || word == W.BRIF && stack.pop() != 0) {
                    taken = values(stack);
                    return word == W.RETURN ? 1000 : number(at);
                } else {
                    plain(word, number(at), stack);
                    at++;
                }
            }
            return -1;
        }

        private void count() {
            if (steps == fuel) {
                throw new Ended(1);
            }
            steps++;
        }

        /** The place of the END or ELSE of the block that is opened here; of ELSE -1 if it has none. */
        private int partner(int opener, int sought) {
            int nested = 0;
            for (int at = opener + 1; at < function.words(); at++) {
                int word = word(at);
                if (nested == 0 && word == sought) {
                    return at;
                }
                if (nested == 0 && word == W.END) {
                    return -1;
                }
                nested += word == W.BLOCK || word == W.LOOP || word == W.IF ? 1 : word == W.END ? -1 : 0;
            }
            return -1;
        }

        private int block(int opener, Deque<Long> outside) {
            int end = partner(opener, W.END);
            int middle = word(opener) == W.IF ? partner(opener, W.ELSE) : -1;
            int from = opener + 1;
            if (word(opener) == W.IF && outside.pop() == 0) {
                if (middle < 0) {
                    return -1;
                }
                from = middle + 1;
            }
            boolean before = middle >= from;
            for (int round = 0; round <= 2000; round++) {
                Deque<Long> stack = new ArrayDeque<>();
                int away = between(from, before ? middle : end, stack);
                if (away < 0) {
                    if (before) {
                        count();
                    }
                    count();
                    values(stack).forEach(outside::push);
                    return -1;
                }
                if (away > 0) {
                    return away - 1;
                }
                if (word(opener) != W.LOOP) {
                    if (number(opener) == 1) {
                        outside.push(taken.get(taken.size() - 1));
                    }
                    return -1;
                }
            }
            throw new IllegalStateException("more rounds than steps");
        }

        private void plain(int word, int a, Deque<Long> stack) {
            switch (word) {
                case W.CONST -> stack.push((long) a);
                case W.GET -> stack.push(locals[a]);
                case W.SET -> locals[a] = stack.pop();
                case W.SELECT -> {
                    long c = stack.pop();
                    long b = stack.pop();
                    long first = stack.pop();
                    stack.push(c != 0 ? first : b);
                }
                case W.DROP -> stack.pop();
                case W.LOAD -> stack.push(load(stack.pop(), a, 8));
                case W.LOAD1 -> stack.push(load(stack.pop(), a, 1));
                case W.STORE -> store(stack.pop(), stack.pop(), a, 8);
                case W.STORE1 -> store(stack.pop(), stack.pop(), a, 1);
                case W.CALL -> {
                    PlainLinker.At target = linked.target(named(a));
                    if (target == null) {
                        throw new Ended(7);
                    }
                    call(target, stack, depth + 1);
                }
                case W.INDIRECT -> indirect(stack.pop(), a, stack);
                case W.ADDRESS -> stack.push((long) linked.address(named(a)));
                case W.SLOT -> stack.push((long) slots.indexOf(linked.target(named(a))) + 1);
                case W.SIZE -> stack.push(1024L);
                case W.BRIF -> { }
                default -> {
                    long upper = stack.pop();
                    stack.push(reckon(word, stack.pop(), upper));
                }
            }
        }

        private PlainLinker.At named(int symbol) {
            return new PlainLinker.At(object, symbol);
        }

        private void indirect(long slot, int a, Deque<Long> stack) {
            if (slot < 1 || slot > slots.size()) {
                throw new Ended(4);
            }
            PlainLinker.At target = slots.get((int) slot - 1);
            if (linked.function(target).parameters() != a / 2 || linked.function(target).results() != a % 2) {
                throw new Ended(5);
            }
            call(target, stack, depth + 1);
        }
    }

    private int addressed(long address, int offset, int width) {
        if (address < 0 || address > 1024 || address + offset + width > 1024) {
            throw new Ended(3);
        }
        return (int) address + offset;
    }

    private long load(long address, int offset, int width) {
        int from = addressed(address, offset, width);
        long sum = 0;
        for (int i = width - 1; i >= 0; i--) {
            sum = sum * 256 + (memory[from + i] & 255);
        }
        return sum;
    }

    private void store(long stored, long address, int offset, int width) {
        int from = addressed(address, offset, width);
        for (int i = 0; i < width; i++) {
            memory[from + i] = (byte) (stored >> (8 * i));
        }
    }

    private static long reckon(int word, long lower, long upper) {
        if ((word == W.DIV || word == W.REM) && upper == 0 || word == W.DIV && upper == -1 && lower == Long.MIN_VALUE) {
            throw new Ended(2);
        }
        return switch (word) {
            case W.ADD -> lower + upper;
            case W.SUB -> lower - upper;
            case W.MUL -> lower * upper;
            case W.DIV -> lower / upper;
            case W.REM -> lower % upper;
            case W.AND -> lower & upper;
            case W.OR -> lower | upper;
            case W.XOR -> lower ^ upper;
            case W.SHL -> lower << (upper & 63);
            case W.SHRS -> lower >> (upper & 63);
            case W.SHRU -> lower >>> (upper & 63);
            case W.EQ -> lower == upper ? 1 : 0;
            case W.LTS -> lower < upper ? 1 : 0;
            case W.LTU -> Long.compareUnsigned(lower, upper) < 0 ? 1 : 0;
            default -> throw new IllegalStateException("word " + word);
        };
    }
}
