import java.util.ArrayList;
import java.util.List;

/** The bytes of what a PlainLinker linked, section by section. */
final class PlainBytes {
    private static final int[] PLAIN = {124, 125, 126, 127, 129, 131, 132, 133, 134, 135, 136};

    private final PlainLinker linked;
    private final Program program;

    PlainBytes(PlainLinker linked, Program program) {
        this.linked = linked;
        this.program = program;
    }

    List<Integer> module() {
        List<Integer> all = new ArrayList<>(List.of(0, 97, 115, 109, 1, 0, 0, 0));
        int slots = linked.slots().size();
        all.addAll(section(1, types()));
        all.addAll(section(3, functions()));
        all.addAll(section(4, join(List.of(1, 112, 0), number(slots + 1))));
        all.addAll(section(5, List.of(1, 0, 1)));
        if (slots > 0) {
            all.addAll(section(9, slots()));
        }
        all.addAll(section(10, codes()));
        if (program.parts.stream().anyMatch(part -> !part.segments.isEmpty())) {
            all.addAll(section(11, data()));
        }
        return all;
    }

    private static List<Integer> section(int first, List<Integer> inside) {
        return join(List.of(first), number(inside.size()), inside);
    }

    @SafeVarargs
    private static List<Integer> join(List<Integer>... rows) {
        List<Integer> all = new ArrayList<>();
        for (List<Integer> row : rows) {
            all.addAll(row);
        }
        return all;
    }

    /** Written from its digits with the base 128. */
    private static List<Integer> number(int value) {
        return value < 128 ? List.of(value) : join(List.of(128 + value % 128), number(value / 128));
    }

    private static List<Integer> signed(long value) {
        long digit = Math.floorMod(value, 128L);
        long rest = Math.floorDiv(value, 128L);
        boolean last = digit < 64 && rest == 0 || digit >= 64 && rest == -1;
        return last ? List.of((int) digit) : join(List.of((int) digit + 128), signed(rest));
    }

    private static List<Integer> wide(int value) {
        List<Integer> row = new ArrayList<>(number(value));
        while (row.size() < 5) {
            row.set(row.size() - 1, row.get(row.size() - 1) | 128);
            row.add(0);
        }
        return row;
    }

    private List<Integer> types() {
        List<Integer> row = number(linked.types().size());
        for (int type : linked.types()) {
            row = join(row, List.of(96), values(type / 2), values(type % 2));
        }
        return row;
    }

    private static List<Integer> values(int many) {
        List<Integer> row = new ArrayList<>(List.of(many));
        for (int i = 0; i < many; i++) {
            row.add(126);
        }
        return row;
    }

    private List<Integer> functions() {
        List<Integer> row = number(linked.functions().size());
        for (PlainLinker.At at : linked.functions()) {
            row = join(row, number(linked.types().indexOf(linked.function(at).signature())));
        }
        return row;
    }

    private List<Integer> slots() {
        List<Integer> row = join(List.of(1, 0, 65, 1, 11), number(linked.slots().size()));
        for (PlainLinker.At at : linked.slots()) {
            row = join(row, number(linked.numberOf(at)));
        }
        return row;
    }

    private List<Integer> codes() {
        List<Integer> row = number(linked.functions().size());
        for (PlainLinker.At at : linked.functions()) {
            List<Integer> code = code(at);
            row = join(row, number(code.size()), code);
        }
        return row;
    }

    private List<Integer> code(PlainLinker.At at) {
        Program.Function function = linked.function(at);
        List<Integer> row = new ArrayList<>(function.locals() == 0 ? List.of(0) : List.of(1, function.locals(), 126));
        for (int i = 0; i < function.words(); i++) {
            row.addAll(word(function.word(i), function.number(i), new PlainLinker.At(at.object(), function.number(i))));
        }
        row.add(11);
        return row;
    }

    private List<Integer> word(int word, int a, PlainLinker.At symbol) {
        return switch (word) {
            case 0 -> join(List.of(66), signed(a));
            case 1 -> join(List.of(32), number(a));
            case 2 -> join(List.of(33), number(a));
            case 14 -> List.of(81, 173);
            case 15 -> List.of(83, 173);
            case 16 -> List.of(84, 173);
            case 17 -> List.of(167, 27);
            case 18 -> List.of(26);
            case 19 -> join(List.of(41, 3), number(a));
            case 20 -> join(List.of(55, 3), number(a));
            case 21 -> join(List.of(49, 0), number(a));
            case 22 -> join(List.of(60, 0), number(a));
            case 23 -> List.of(2, a == 0 ? 64 : 126);
            case 24 -> List.of(3, a == 0 ? 64 : 126);
            case 25 -> List.of(167, 4, a == 0 ? 64 : 126);
            case 26 -> List.of(5);
            case 27 -> List.of(11);
            case 28 -> join(List.of(12), number(a));
            case 29 -> join(List.of(167, 13), number(a));
            case 30 -> List.of(15);
            case 31 -> called(linked.target(symbol));
            case 32 -> join(List.of(167, 17), wide(linked.types().indexOf(a)), List.of(0));
            case 33 -> join(List.of(66), wide(linked.address(symbol)));
            case 34 -> join(List.of(66), wide(linked.slotOf(linked.target(symbol))));
            case 35 -> join(List.of(66), signed(1024));
            default -> List.of(PLAIN[word - 3]);
        };
    }

    private List<Integer> called(PlainLinker.At target) {
        return target == null ? List.of(0) : join(List.of(16), wide(linked.numberOf(target)));
    }

    private List<Integer> data() {
        List<Integer> row = new ArrayList<>();
        int many = 0;
        for (int object = 0; object < program.parts.size(); object++) {
            List<Program.Segment> segments = program.parts.get(object).segments;
            for (int i = 0; i < segments.size(); i++) {
                byte[] bytes = segments.get(i).bytes();
                row.addAll(join(List.of(0, 65), signed(linked.start(object, i)), List.of(11), number(bytes.length)));
                for (byte b : bytes) {
                    row.add(b & 255);
                }
                many++;
            }
        }
        return join(number(many), row);
    }
}
