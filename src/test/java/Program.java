import java.util.ArrayList;
import java.util.List;

/** What is put into a linker: objects with their functions, segments and symbols. */
final class Program {
    /** A function, with its words and their numbers as pairs. */
    record Function(int parameters, int results, int locals, int[] pairs) {
        int words() {
            return pairs.length / 2;
        }

        int word(int at) {
            return pairs[2 * at];
        }

        int number(int at) {
            return pairs[2 * at + 1];
        }

        int signature() {
            return 2 * parameters + results;
        }
    }

    record Segment(int power, byte[] bytes) {
        int fills() {
            return (bytes.length + 7) / 8;
        }
    }

    record Symbol(int name, int kind, int binding, int defines, int offset) {
        boolean isLocal() {
            return binding == W.LOCAL;
        }

        boolean definesSomething() {
            return defines != W.NONE;
        }
    }

    /** One of its objects. */
    static final class Part {
        final List<Function> functions = new ArrayList<>();
        final List<Segment> segments = new ArrayList<>();
        final List<Symbol> symbols = new ArrayList<>();
    }

    final List<Part> parts = new ArrayList<>();

    /** How many calls make it, at most. */
    int calls() {
        int calls = parts.size();
        for (Part part : parts) {
            calls += part.functions.size() + part.segments.size() + part.symbols.size();
            calls += part.functions.stream().mapToInt(Function::words).sum();
            calls += part.segments.stream().mapToInt(Segment::fills).sum();
        }
        return calls;
    }

    /** A new linker with all of it. */
    ObjectLinker linker() {
        ObjectLinker x = W.objects(parts.size());
        for (int object = 0; object < parts.size(); object++) {
            Part part = parts.get(object);
            for (Function made : part.functions) {
                W.function(x, object, made.parameters, made.results, made.locals, made.pairs);
            }
            for (Segment made : part.segments) {
                fill(x, object, x.segment(object, made.bytes.length, made.power), made.bytes);
            }
            for (Symbol made : part.symbols) {
                x.symbol(object, made.name, made.kind, made.binding, made.defines, made.offset);
            }
        }
        return x;
    }

    private static void fill(ObjectLinker x, int object, int segment, byte[] bytes) {
        for (int from = 0; from < bytes.length; from += 8) {
            long v = 0;
            for (int i = Math.min(from + 8, bytes.length) - 1; i >= from; i--) {
                v = v << 8 | bytes[i] & 255;
            }
            if (v != 0) {
                x.fill(object, segment, from, v);
            }
        }
    }
}
