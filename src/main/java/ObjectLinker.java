import java.util.ArrayList;
import java.util.Arrays;
import java.util.List;

/** Joins the functions, data and symbols of several objects into one module, and runs it. */
public final class ObjectLinker {
    public static final int NONE = -1;

    private static final int MOST_OBJECTS = 6;
    private static final int MOST_FUNCTIONS = 8;
    private static final int MOST_SEGMENTS = 4;
    private static final int MOST_SYMBOLS = 16;
    private static final int MOST_WORDS = 60;
    private static final int MOST_PARAMETERS = 4;
    private static final int MOST_LOCALS = 4;
    private static final int MOST_FUEL = 2000;
    private static final int MOST_DEPTH = 40;
    private static final int LARGEST_SEGMENT = 64;
    private static final int LARGEST_POWER = 4;
    private static final int LARGEST_OFFSET = 1000;
    private static final int FARTHEST_BLOCK = 30;
    private static final int NAMES = 31;
    // Parameters and results as one number, as INDIRECT and a symbol's offset write them.
    private static final int SIGNATURES = 10;
    private static final int MEMORY_BYTES = 1024;
    private static final int FIRST_ADDRESS = 16;
    private static final long LEAST = 1L << 63;

    private static final int KIND_FUNCTION = 0;
    private static final int KIND_DATA = 1;
    private static final int STRONG = 0;
    private static final int LOCAL = 2;

    private static final int FAULT_WORD = 1;
    private static final int FAULT_CODE = 2;
    private static final int FAULT_DOUBLE = 3;
    private static final int FAULT_MISSING = 4;
    private static final int FAULT_KIND = 5;
    private static final int FAULT_SIGNATURE = 6;
    private static final int FAULT_ROOM = 7;

    private static final int RUNNING = -1;
    private static final int END_RETURNED = 0;
    private static final int END_FUEL = 1;
    private static final int END_DIVISION = 2;
    private static final int END_ADDRESS = 3;
    private static final int END_SLOT = 4;
    private static final int END_SIGNATURE = 5;
    private static final int END_DEPTH = 6;
    private static final int END_MISSING = 7;

    private final List<Unit> units = new ArrayList<>();
    private final Names names = new Names();
    private final CodeCheck check = new CodeCheck();
    private final Image image = new Image();
    private final ModuleWriter writer = new ModuleWriter();
    private final Machine machine = new Machine();
    private boolean linked = false;
    private int faultPlace = NONE;

    public ObjectLinker() {
    }

    public int object() throws IllegalStateException {
        requireRoom(units.size(), MOST_OBJECTS);
        linked = false;
        units.add(new Unit());
        return units.size() - 1;
    }

    public int function(int object, int parameters, int results, int locals)
            throws IllegalArgumentException, IllegalStateException {
        Unit unit = unitAt(object);
        requireWithin(parameters, MOST_PARAMETERS);
        requireWithin(results, 1);
        requireWithin(locals, MOST_LOCALS);
        int number = unit.routines.size();
        requireRoom(number, MOST_FUNCTIONS);
        linked = false;
        unit.routines.add(new Routine(unit, 1000 * object + 100 * number, parameters, results, locals));
        return number;
    }

    public int code(int object, int function, int word, int a)
            throws IllegalArgumentException, IllegalStateException {
        Routine routine = routineAt(object, function);
        requireWithin(word, Word.SIZE);
        requireRoom(routine.size, MOST_WORDS);
        linked = false;
        routine.append(word, a);
        return routine.size - 1;
    }

    public int segment(int object, int size, int power)
            throws IllegalArgumentException, IllegalStateException {
        Unit unit = unitAt(object);
        require(size >= 1 && size <= LARGEST_SEGMENT);
        requireWithin(power, LARGEST_POWER);
        int number = unit.segments.size();
        requireRoom(number, MOST_SEGMENTS);
        linked = false;
        unit.segments.add(new Segment(size, power));
        return number;
    }

    public void fill(int object, int segment, int i, long v) throws IllegalArgumentException {
        Segment filled = unitAt(object).segmentAt(segment);
        require(filled != null && i >= 0 && i < filled.bytes.length);
        linked = false;
        putBytes(filled.bytes, i, Math.min(8, filled.bytes.length - i), v);
    }

    public int symbol(int object, int name, int kind, int binding, int defines, int offset)
            throws IllegalArgumentException, IllegalStateException {
        Unit unit = unitAt(object);
        requireWithin(name, NAMES - 1);
        requireWithin(kind, KIND_DATA);
        requireWithin(binding, LOCAL);
        Routine routine = kind == KIND_FUNCTION ? unit.routineAt(defines) : null;
        Segment segment = kind == KIND_DATA ? unit.segmentAt(defines) : null;
        require(defines == NONE || routine != null || segment != null);
        requireWithin(offset, largestOffset(kind, routine, segment));
        int number = unit.symbols.size();
        requireRoom(number, MOST_SYMBOLS);
        linked = false;
        unit.symbols.add(new Symbol(100 * object + number, name, kind, binding, routine, segment, offset));
        return number;
    }

    public int link() throws IllegalStateException {
        requireState(!units.isEmpty());
        image.gather(units);
        names.join(image.symbols);
        int fault = 0;
        faultPlace = NONE;
        for (int looked = FAULT_WORD; looked <= FAULT_ROOM && faultPlace == NONE; looked++) {
            faultPlace = placeOf(looked);
            fault = faultPlace == NONE ? 0 : looked;
        }
        linked = fault == 0;
        if (linked) {
            image.number();
            writer.write(image);
        }
        return fault;
    }

    public int place() {
        return faultPlace;
    }

    public int count(int what) throws IllegalArgumentException, IllegalStateException {
        requireWithin(what, 4);
        requireState(linked);
        switch (what) {
            case 0:
                return writer.module.size;
            case 1:
                return image.routines.size();
            case 2:
                return image.typeCount;
            case 3:
                return image.slots.size();
            default:
                return image.end;
        }
    }

    public int byteAt(int i) throws IllegalArgumentException, IllegalStateException {
        // Without a module only a negative i is wrong by itself, whatever will be linked.
        require(i >= 0 && (!linked || i < writer.module.size));
        requireState(linked);
        return writer.module.row[i] & 255;
    }

    public int meant(int object, int symbol, int what) throws IllegalArgumentException, IllegalStateException {
        Symbol asked = unitAt(object).symbolAt(symbol);
        require(asked != null);
        requireWithin(what, 1);
        requireState(linked);
        if (what == 1) {
            return asked.slot();
        }
        if (asked.kind == KIND_DATA) {
            return asked.address();
        }
        Routine target = asked.target();
        return target == null ? NONE : target.number;
    }

    public int run(int object, int function, long x, long y, int fuel)
            throws IllegalArgumentException, IllegalStateException {
        Routine first = routineAt(object, function);
        requireWithin(fuel, MOST_FUEL);
        requireState(linked);
        machine.prepare(image);
        return machine.perform(first, x, y, fuel);
    }

    public long told(int what) throws IllegalArgumentException {
        requireWithin(what, 2);
        switch (what) {
            case 0:
                return machine.value;
            case 1:
                return machine.steps;
            default:
                return machine.deepest;
        }
    }

    public int memory(int address) throws IllegalArgumentException {
        requireWithin(address, MEMORY_BYTES - 1);
        return machine.bytes[address] & 255;
    }

    private int placeOf(int fault) {
        switch (fault) {
            case FAULT_WORD:
                return image.wrongNumber();
            case FAULT_CODE:
                return check.wrongCode(image.routines);
            case FAULT_DOUBLE:
                return names.doubled(image.symbols);
            case FAULT_MISSING:
                return names.missing(image.symbols);
            case FAULT_KIND:
                return names.otherKind(image.symbols);
            case FAULT_SIGNATURE:
                return image.otherSignature();
            default:
                image.layOut();
                return image.end > MEMORY_BYTES ? 0 : NONE;
        }
    }

    private Unit unitAt(int object) {
        require(object >= 0 && object < units.size());
        return units.get(object);
    }

    private Routine routineAt(int object, int function) {
        Routine routine = unitAt(object).routineAt(function);
        require(routine != null);
        return routine;
    }

    private static int largestOffset(int kind, Routine routine, Segment segment) {
        if (kind == KIND_DATA) {
            return segment == null ? 0 : segment.bytes.length;
        }
        return routine == null ? SIGNATURES - 1 : 0;
    }

    private static void putBytes(byte[] row, int from, int many, long value) {
        for (int i = 0; i < many; i++) {
            row[from + i] = (byte) (value >>> (8 * i));
        }
    }

    private static void requireWithin(int number, int largest) {
        require(number >= 0 && number <= largest);
    }

    private static void require(boolean holds) {
        if (!holds) {
            throw new IllegalArgumentException("a number is out of its bounds, or there is no such thing");
        }
    }

    private static void requireRoom(int there, int most) {
        requireState(there < most);
    }

    private static void requireState(boolean holds) {
        if (!holds) {
            throw new IllegalStateException("there is no room, or nothing is there or linked");
        }
    }

    /** The words of the machine, and what of each does not hang on its number. */
    private static final class Word {
        static final int CONST = 0;
        static final int GET = 1;
        static final int SET = 2;
        static final int ADD = 3;
        static final int SUB = 4;
        static final int MUL = 5;
        static final int DIV = 6;
        static final int REM = 7;
        static final int AND = 8;
        static final int OR = 9;
        static final int XOR = 10;
        static final int SHL = 11;
        static final int SHRS = 12;
        static final int SHRU = 13;
        static final int EQ = 14;
        static final int LTS = 15;
        static final int LTU = 16;
        static final int SELECT = 17;
        static final int DROP = 18;
        static final int LOAD = 19;
        static final int STORE = 20;
        static final int LOAD1 = 21;
        static final int STORE1 = 22;
        static final int BLOCK = 23;
        static final int LOOP = 24;
        static final int IF = 25;
        static final int ELSE = 26;
        static final int END = 27;
        static final int BR = 28;
        static final int BRIF = 29;
        static final int RETURN = 30;
        static final int CALL = 31;
        static final int INDIRECT = 32;
        static final int ADDRESS = 33;
        static final int SLOT = 34;
        static final int SIZE = 35;

        // How many values each word pops and pushes, but for what its number tells.
        static final int[] POPS = {
            0, 0, 1, 2, 2, 2, 2, 2, 2, 2, 2, 2, 2, 2, 2, 2, 2, 3, 1,
            1, 2, 1, 2, 0, 0, 1, 0, 0, 0, 1, 0, 0, 1, 0, 0, 0};
        static final int[] PUSHES = {
            1, 1, 0, 1, 1, 1, 1, 1, 1, 1, 1, 1, 1, 1, 1, 1, 1, 1, 0,
            1, 0, 1, 0, 0, 0, 0, 0, 0, 0, 0, 0, 0, 0, 1, 1, 1};
        static final int[] OPCODES = {
            66, 32, 33, 124, 125, 126, 127, 129, 131, 132, 133, 134, 135, 136, 81, 83, 84, 27, 26,
            41, 55, 49, 60, 2, 3, 4, 5, 11, 12, 13, 15, 16, 17, 66, 66, 66};

        static long reckon(int word, long lower, long upper) {
            switch (word) {
                case ADD:
                    return lower + upper;
                case SUB:
                    return lower - upper;
                case MUL:
                    return lower * upper;
                case AND:
                    return lower & upper;
                case OR:
                    return lower | upper;
                case XOR:
                    return lower ^ upper;
                case SHL:
                    return lower << upper;
                case SHRS:
                    return lower >> upper;
                case SHRU:
                    return lower >>> upper;
                case EQ:
                    return lower == upper ? 1 : 0;
                case LTS:
                    return lower < upper ? 1 : 0;
                default:
                    return Long.compareUnsigned(lower, upper) < 0 ? 1 : 0;
            }
        }
    }

    /** One object that is linked. */
    private static final class Unit {
        final List<Routine> routines = new ArrayList<>();
        final List<Segment> segments = new ArrayList<>();
        final List<Symbol> symbols = new ArrayList<>();

        Routine routineAt(int i) {
            return i >= 0 && i < routines.size() ? routines.get(i) : null;
        }

        Segment segmentAt(int i) {
            return i >= 0 && i < segments.size() ? segments.get(i) : null;
        }

        Symbol symbolAt(int i) {
            return i >= 0 && i < symbols.size() ? symbols.get(i) : null;
        }
    }

    /** A function. */
    private static final class Routine {
        final Unit owner;
        // What a fault's place in this function begins with.
        final int home;
        final int parameters;
        final int results;
        final int locals;
        final int[] words = new int[MOST_WORDS];
        final int[] numbers = new int[MOST_WORDS];
        // Linking keeps where the code goes here, so that a run need not look for it at each jump:
        // of BLOCK, LOOP, IF and ELSE the place of the END,
        final int[] ends = new int[MOST_WORDS];
        // of BR and BRIF the place of the block's first word (NONE: the function), of IF the place for 0,
        final int[] goals = new int[MOST_WORDS];
        // of BLOCK, LOOP and IF how many values are below the block.
        final int[] bases = new int[MOST_WORDS];
        int size;
        int number;
        int slot;

        Routine(Unit owner, int home, int parameters, int results, int locals) {
            this.owner = owner;
            this.home = home;
            this.parameters = parameters;
            this.results = results;
            this.locals = locals;
        }

        void append(int word, int a) {
            words[size] = word;
            numbers[size] = a;
            size++;
        }

        int signature() {
            return 2 * parameters + results;
        }

        Routine targetOf(int at) {
            Symbol named = owner.symbolAt(numbers[at]);
            return named == null ? null : named.target();
        }

        int addressOf(int at) {
            Symbol named = owner.symbolAt(numbers[at]);
            return named == null ? 0 : named.address();
        }

        int slotOf(int at) {
            Symbol named = owner.symbolAt(numbers[at]);
            return named == null ? 0 : named.slot();
        }

        boolean numberFits(int at) {
            int a = numbers[at];
            switch (words[at]) {
                case Word.GET:
                case Word.SET:
                    return a >= 0 && a < parameters + locals;
                case Word.LOAD:
                case Word.STORE:
                case Word.LOAD1:
                case Word.STORE1:
                    return a >= 0 && a <= LARGEST_OFFSET;
                case Word.BLOCK:
                case Word.LOOP:
                case Word.IF:
                    return a == 0 || a == 1;
                case Word.BR:
                case Word.BRIF:
                    return a >= 0 && a <= FARTHEST_BLOCK;
                case Word.CALL:
                case Word.SLOT:
                    return namesKind(at, KIND_FUNCTION);
                case Word.ADDRESS:
                    return namesKind(at, KIND_DATA);
                case Word.INDIRECT:
                    return a >= 0 && a < SIGNATURES;
                default:
                    return true;
            }
        }

        private boolean namesKind(int at, int kind) {
            Symbol named = owner.symbolAt(numbers[at]);
            return named != null && named.kind == kind;
        }

        boolean callFits(int at) {
            Symbol named = owner.symbolAt(numbers[at]);
            Routine target = targetOf(at);
            return named == null || target == null || target.signature() == named.signature();
        }
    }

    /** A segment of data. */
    private static final class Segment {
        final byte[] bytes;
        final int alignment;
        int address;

        Segment(int size, int power) {
            bytes = new byte[size];
            alignment = 1 << power;
        }
    }

    /** A symbol: what it defines, and whose definition is meant by it. */
    private static final class Symbol {
        // What a fault at this symbol is told as.
        final int home;
        final int name;
        final int kind;
        final int binding;
        final Routine routine;
        final Segment segment;
        final int offset;
        Symbol source;

        Symbol(int home, int name, int kind, int binding, Routine routine, Segment segment, int offset) {
            this.home = home;
            this.name = name;
            this.kind = kind;
            this.binding = binding;
            this.routine = routine;
            this.segment = segment;
            this.offset = offset;
        }

        boolean defines() {
            return routine != null || segment != null;
        }

        int signature() {
            return routine == null ? offset : routine.signature();
        }

        Routine target() {
            return source == null ? null : source.routine;
        }

        int address() {
            return source == null || source.segment == null ? 0 : source.segment.address + source.offset;
        }

        int slot() {
            Routine target = target();
            return target == null ? 0 : target.slot;
        }
    }

    /** Joins the symbols that are not local by their names. */
    private static final class Names {
        final Symbol[] firsts = new Symbol[NAMES];
        final Symbol[] strongs = new Symbol[NAMES];
        final Symbol[] weaks = new Symbol[NAMES];

        void join(List<Symbol> symbols) {
            for (int name = 0; name < NAMES; name++) {
                firsts[name] = null;
                strongs[name] = null;
                weaks[name] = null;
            }
            for (int i = 0; i < symbols.size(); i++) {
                note(symbols.get(i));
            }
            for (int i = 0; i < symbols.size(); i++) {
                Symbol symbol = symbols.get(i);
                symbol.source = symbol.binding == LOCAL ? symbol : definer(symbol.name);
            }
        }

        private void note(Symbol symbol) {
            if (symbol.binding == LOCAL) {
                return;
            }
            noteFirst(firsts, symbol);
            if (symbol.defines()) {
                noteFirst(symbol.binding == STRONG ? strongs : weaks, symbol);
            }
        }

        private static void noteFirst(Symbol[] row, Symbol symbol) {
            if (row[symbol.name] == null) {
                row[symbol.name] = symbol;
            }
        }

        private Symbol definer(int name) {
            return strongs[name] != null ? strongs[name] : weaks[name];
        }

        int doubled(List<Symbol> symbols) {
            for (int i = 0; i < symbols.size(); i++) {
                Symbol symbol = symbols.get(i);
                if (symbol.binding == STRONG && symbol.defines() && strongs[symbol.name] != symbol) {
                    return symbol.home;
                }
            }
            return NONE;
        }

        int missing(List<Symbol> symbols) {
            for (int i = 0; i < symbols.size(); i++) {
                Symbol symbol = symbols.get(i);
                boolean alone = symbol.binding == LOCAL
                        || symbol.binding == STRONG && definer(symbol.name) == null;
                if (alone && !symbol.defines()) {
                    return symbol.home;
                }
            }
            return NONE;
        }

        int otherKind(List<Symbol> symbols) {
            for (int i = 0; i < symbols.size(); i++) {
                Symbol symbol = symbols.get(i);
                Symbol first = firsts[symbol.name];
                if (symbol.binding != LOCAL && first != null && first.kind != symbol.kind) {
                    return symbol.home;
                }
            }
            return NONE;
        }
    }

    /** Looks through the blocks and the stack of one function after the other. */
    private static final class CodeCheck {
        // One row an open block, the function itself the lowest.
        final int[] openers = new int[MOST_WORDS + 1];
        final int[] elses = new int[MOST_WORDS + 1];
        final int[] bases = new int[MOST_WORDS + 1];
        final int[] leaves = new int[MOST_WORDS + 1];
        // Whether nothing gets to where the block stands now, behind BR or RETURN.
        final boolean[] dead = new boolean[MOST_WORDS + 1];
        int open;
        int height;

        int wrongCode(List<Routine> routines) {
            for (int i = 0; i < routines.size(); i++) {
                Routine routine = routines.get(i);
                int at = firstWrong(routine);
                if (at != NONE) {
                    return routine.home + at;
                }
            }
            return NONE;
        }

        private int firstWrong(Routine routine) {
            open = NONE;
            height = 0;
            begin(NONE, routine.results);
            for (int at = 0; at < routine.size; at++) {
                if (!wordFits(routine, at)) {
                    return at;
                }
            }
            return open == 0 && closes() ? NONE : routine.size;
        }

        private boolean wordFits(Routine routine, int at) {
            int word = routine.words[at];
            int a = routine.numbers[at];
            if (!pop(Word.POPS[word])) {
                return false;
            }
            switch (word) {
                case Word.BLOCK:
                case Word.LOOP:
                case Word.IF:
                    routine.bases[at] = height;
                    begin(at, a);
                    return true;
                case Word.ELSE:
                    return turn(routine, at);
                case Word.END:
                    return finish(routine, at);
                case Word.BR:
                case Word.BRIF:
                    return jump(routine, at);
                case Word.RETURN:
                    boolean returns = pop(routine.results);
                    abandon();
                    return returns;
                case Word.CALL:
                    Symbol named = routine.owner.symbolAt(a);
                    return named != null && passThrough(named.signature());
                case Word.INDIRECT:
                    return passThrough(a);
                default:
                    height += Word.PUSHES[word];
                    return true;
            }
        }

        private void begin(int opener, int leaving) {
            open++;
            openers[open] = opener;
            elses[open] = NONE;
            bases[open] = height;
            leaves[open] = leaving;
            dead[open] = false;
        }

        private boolean turn(Routine routine, int at) {
            boolean fits = open > 0 && routine.words[openers[open]] == Word.IF && elses[open] == NONE && closes();
            if (fits) {
                elses[open] = at;
                dead[open] = false;
                routine.goals[openers[open]] = at + 1;
            }
            return fits;
        }

        private boolean finish(Routine routine, int at) {
            if (open == 0 || lacksElse(routine) || !closes()) {
                return false;
            }
            int opener = openers[open];
            routine.ends[opener] = at;
            if (elses[open] == NONE) {
                routine.goals[opener] = at + 1;
            } else {
                routine.ends[elses[open]] = at;
            }
            height += leaves[open];
            open--;
            return true;
        }

        private boolean lacksElse(Routine routine) {
            return routine.words[openers[open]] == Word.IF && elses[open] == NONE && leaves[open] == 1;
        }

        private boolean jump(Routine routine, int at) {
            int goal = open - routine.numbers[at];
            if (goal < 0) {
                return false;
            }
            routine.goals[at] = openers[goal];
            boolean toLoop = goal > 0 && routine.words[openers[goal]] == Word.LOOP;
            int taken = toLoop ? 0 : leaves[goal];
            boolean fits = pop(taken);
            if (routine.words[at] == Word.BR) {
                abandon();
            } else {
                height += taken;
            }
            return fits;
        }

        private void abandon() {
            height = bases[open];
            dead[open] = true;
        }

        private boolean passThrough(int signature) {
            boolean fits = pop(signature / 2);
            height += signature % 2;
            return fits;
        }

        private boolean closes() {
            int there = height - bases[open];
            height = bases[open];
            return there == leaves[open] || dead[open] && there < leaves[open];
        }

        private boolean pop(int many) {
            boolean there = height - bases[open] >= many;
            height = there ? height - many : bases[open];
            return there || dead[open];
        }
    }

    /** What is linked, in the module's order. */
    private static final class Image {
        final List<Routine> routines = new ArrayList<>();
        final List<Segment> segments = new ArrayList<>();
        final List<Symbol> symbols = new ArrayList<>();
        final List<Routine> slots = new ArrayList<>();
        // The signature of each type, and the type of each signature.
        final int[] types = new int[SIGNATURES];
        final int[] typeNumbers = new int[SIGNATURES];
        int typeCount;
        int end;

        void gather(List<Unit> units) {
            routines.clear();
            segments.clear();
            symbols.clear();
            for (int i = 0; i < units.size(); i++) {
                Unit unit = units.get(i);
                for (int k = 0; k < unit.routines.size(); k++) {
                    routines.add(unit.routines.get(k));
                }
                for (int k = 0; k < unit.segments.size(); k++) {
                    segments.add(unit.segments.get(k));
                }
                for (int k = 0; k < unit.symbols.size(); k++) {
                    symbols.add(unit.symbols.get(k));
                }
            }
        }

        int wrongNumber() {
            for (int i = 0; i < routines.size(); i++) {
                Routine routine = routines.get(i);
                for (int at = 0; at < routine.size; at++) {
                    if (!routine.numberFits(at)) {
                        return routine.home + at;
                    }
                }
            }
            return NONE;
        }

        int otherSignature() {
            for (int i = 0; i < routines.size(); i++) {
                Routine routine = routines.get(i);
                for (int at = 0; at < routine.size; at++) {
                    if (routine.words[at] == Word.CALL && !routine.callFits(at)) {
                        return routine.home + at;
                    }
                }
            }
            return NONE;
        }

        void layOut() {
            end = FIRST_ADDRESS;
            for (int i = 0; i < segments.size(); i++) {
                Segment segment = segments.get(i);
                segment.address = (end + segment.alignment - 1) & -segment.alignment;
                end = segment.address + segment.bytes.length;
            }
        }

        void number() {
            slots.clear();
            typeCount = 0;
            Arrays.fill(typeNumbers, NONE);
            for (int i = 0; i < routines.size(); i++) {
                Routine routine = routines.get(i);
                routine.number = i;
                routine.slot = 0;
                noteType(routine.signature());
            }
            for (int i = 0; i < routines.size(); i++) {
                Routine routine = routines.get(i);
                for (int at = 0; at < routine.size; at++) {
                    noteWord(routine, at);
                }
            }
        }

        private void noteWord(Routine routine, int at) {
            if (routine.words[at] == Word.INDIRECT) {
                noteType(routine.numbers[at]);
            }
            if (routine.words[at] == Word.SLOT) {
                noteSlot(routine.targetOf(at));
            }
        }

        private void noteType(int signature) {
            if (typeNumbers[signature] == NONE) {
                typeNumbers[signature] = typeCount;
                types[typeCount] = signature;
                typeCount++;
            }
        }

        private void noteSlot(Routine target) {
            if (target != null && target.slot == 0) {
                slots.add(target);
                target.slot = slots.size();
            }
        }
    }

    /** A row of bytes that grows, so that small modules cost little room. */
    private static final class Bytes {
        byte[] row = new byte[128];
        int size;

        void put(int value) {
            if (size == row.length) {
                row = Arrays.copyOf(row, 2 * size);
            }
            row[size] = (byte) value;
            size++;
        }

        void putAll(byte[] from, int many) {
            for (int i = 0; i < many; i++) {
                put(from[i]);
            }
        }

        void number(int value) {
            int rest = value;
            for (int i = 0; i < 4 && rest >= 128; i++) {
                put(rest & 127 | 128);
                rest >>>= 7;
            }
            put(rest);
        }

        void signed(int value) {
            int rest = value;
            // A byte can be the last one while its bit 6 tells the sign of what it writes.
            for (int i = 0; i < 4 && (rest < -64 || rest > 63); i++) {
                put(rest & 127 | 128);
                rest >>= 7;
            }
            put(rest & 127);
        }

        void wide(int value) {
            int rest = value;
            for (int i = 0; i < 4; i++) {
                put(rest & 127 | 128);
                rest >>>= 7;
            }
            put(rest);
        }
    }

    /** Writes the bytes of the module. */
    private static final class ModuleWriter {
        private static final int VALUE = 126;
        private static final int NOTHING = 64;
        private static final int CONST32 = 65;
        private static final int LAST = 11;
        private static final int TRAP = 0;
        private static final int WRAP = 167;
        private static final int EXTEND = 173;

        final Bytes module = new Bytes();
        // How long a section or a function is stands before it, so each is written aside first.
        final Bytes section = new Bytes();
        final Bytes body = new Bytes();

        void write(Image image) {
            module.size = 0;
            writeHeader();
            writeTypes(image);
            writeFunctions(image);
            writeTable(image);
            writeSlots(image);
            writeCode(image);
            writeData(image);
        }

        private void writeHeader() {
            module.put(0);
            module.put(97);
            module.put(115);
            module.put(109);
            module.put(1);
            module.put(0);
            module.put(0);
            module.put(0);
        }

        private void writeSection(int id) {
            module.put(id);
            module.number(section.size);
            module.putAll(section.row, section.size);
            section.size = 0;
        }

        private void writeTypes(Image image) {
            section.number(image.typeCount);
            for (int i = 0; i < image.typeCount; i++) {
                section.put(96);
                writeValues(image.types[i] / 2);
                writeValues(image.types[i] % 2);
            }
            writeSection(1);
        }

        private void writeValues(int many) {
            section.number(many);
            for (int i = 0; i < many; i++) {
                section.put(VALUE);
            }
        }

        private void writeFunctions(Image image) {
            section.number(image.routines.size());
            for (int i = 0; i < image.routines.size(); i++) {
                section.number(image.typeNumbers[image.routines.get(i).signature()]);
            }
            writeSection(3);
        }

        private void writeTable(Image image) {
            section.put(1);
            section.put(112);
            section.put(0);
            section.number(image.slots.size() + 1);
            writeSection(4);
            section.put(1);
            section.put(0);
            section.put(1);
            writeSection(5);
        }

        private void writeSlots(Image image) {
            if (image.slots.isEmpty()) {
                return;
            }
            section.put(1);
            section.put(0);
            section.put(CONST32);
            section.put(1);
            section.put(LAST);
            section.number(image.slots.size());
            for (int i = 0; i < image.slots.size(); i++) {
                section.number(image.slots.get(i).number);
            }
            writeSection(9);
        }

        private void writeCode(Image image) {
            section.number(image.routines.size());
            for (int i = 0; i < image.routines.size(); i++) {
                writeBody(image, image.routines.get(i));
                section.number(body.size);
                section.putAll(body.row, body.size);
            }
            writeSection(10);
        }

        private void writeData(Image image) {
            if (image.segments.isEmpty()) {
                return;
            }
            section.number(image.segments.size());
            for (int i = 0; i < image.segments.size(); i++) {
                Segment segment = image.segments.get(i);
                section.put(0);
                section.put(CONST32);
                section.signed(segment.address);
                section.put(LAST);
                section.number(segment.bytes.length);
                section.putAll(segment.bytes, segment.bytes.length);
            }
            writeSection(11);
        }

        private void writeBody(Image image, Routine routine) {
            body.size = 0;
            if (routine.locals == 0) {
                body.put(0);
            } else {
                body.put(1);
                body.number(routine.locals);
                body.put(VALUE);
            }
            for (int at = 0; at < routine.size; at++) {
                writeFirst(routine, at);
                writeRest(image, routine, at);
            }
            body.put(LAST);
        }

        private void writeFirst(Routine routine, int at) {
            int word = routine.words[at];
            if (word == Word.SELECT || word == Word.IF || word == Word.BRIF || word == Word.INDIRECT) {
                body.put(WRAP);
            }
            boolean missing = word == Word.CALL && routine.targetOf(at) == null;
            body.put(missing ? TRAP : Word.OPCODES[word]);
        }

        private void writeRest(Image image, Routine routine, int at) {
            int a = routine.numbers[at];
            switch (routine.words[at]) {
                case Word.CONST:
                    body.signed(a);
                    break;
                case Word.GET:
                case Word.SET:
                case Word.BR:
                case Word.BRIF:
                    body.number(a);
                    break;
                case Word.EQ:
                case Word.LTS:
                case Word.LTU:
                    body.put(EXTEND);
                    break;
                case Word.LOAD:
                case Word.STORE:
                    body.put(3);
                    body.number(a);
                    break;
                case Word.LOAD1:
                case Word.STORE1:
                    body.put(0);
                    body.number(a);
                    break;
                case Word.BLOCK:
                case Word.LOOP:
                case Word.IF:
                    body.put(a == 0 ? NOTHING : VALUE);
                    break;
                case Word.CALL:
                    Routine target = routine.targetOf(at);
                    if (target != null) {
                        body.wide(target.number);
                    }
                    break;
                case Word.INDIRECT:
                    body.wide(image.typeNumbers[a]);
                    body.put(0);
                    break;
                case Word.ADDRESS:
                    body.wide(routine.addressOf(at));
                    break;
                case Word.SLOT:
                    body.wide(routine.slotOf(at));
                    break;
                case Word.SIZE:
                    body.signed(MEMORY_BYTES);
                    break;
                default:
                    break;
            }
        }
    }

    /** Runs what was linked, and keeps what is told of the latest run. */
    private static final class Machine {
        // Linking makes sure that a word leaves at most one value more on the stack of its function.
        final long[] stack = new long[MOST_DEPTH * (MOST_PARAMETERS + MOST_LOCALS + MOST_WORDS)];
        // One row a function that is open.
        final Routine[] routines = new Routine[MOST_DEPTH];
        final int[] nexts = new int[MOST_DEPTH];
        final int[] floors = new int[MOST_DEPTH];
        final byte[] bytes = new byte[MEMORY_BYTES];
        List<Routine> slots = null;
        int height;
        int depth;
        int end;
        long value;
        int steps;
        int deepest;

        void prepare(Image image) {
            slots = image.slots;
            Arrays.fill(bytes, (byte) 0);
            for (int i = 0; i < image.segments.size(); i++) {
                Segment segment = image.segments.get(i);
                System.arraycopy(segment.bytes, 0, bytes, segment.address, segment.bytes.length);
            }
            height = 0;
            depth = 0;
            end = RUNNING;
            value = 0;
            steps = 0;
            deepest = 0;
        }

        int perform(Routine first, long x, long y, int fuel) {
            for (int i = 0; i < first.parameters; i++) {
                push(i == 0 ? x : i == 1 ? y : 0);
            }
            enter(first);
            leaveEnded();
            while (end == RUNNING && steps < fuel) {
                steps++;
                step();
                leaveEnded();
            }
            if (end == RUNNING) {
                end = END_FUEL;
            }
            return end;
        }

        private void enter(Routine routine) {
            if (depth >= MOST_DEPTH) {
                end = END_DEPTH;
                return;
            }
            routines[depth] = routine;
            nexts[depth] = 0;
            floors[depth] = height - routine.parameters;
            depth++;
            deepest = Math.max(deepest, depth);
            for (int i = 0; i < routine.locals; i++) {
                push(0);
            }
        }

        private void leaveEnded() {
            for (int open = depth; open > 0 && end == RUNNING; open--) {
                if (nexts[open - 1] < routines[open - 1].size) {
                    return;
                }
                leave();
            }
        }

        private void leave() {
            depth--;
            int results = routines[depth].results;
            keep(floors[depth], results);
            if (depth == 0) {
                end = END_RETURNED;
                value = results == 0 ? 0 : pop();
            }
        }

        private void step() {
            Routine routine = routines[depth - 1];
            int at = nexts[depth - 1];
            int word = routine.words[at];
            nexts[depth - 1] = at + 1;
            if (word >= Word.ADD && word <= Word.LTU) {
                reckon(word);
            } else if (word >= Word.LOAD && word <= Word.STORE1) {
                access(word, routine.numbers[at]);
            } else if (word >= Word.BLOCK && word <= Word.RETURN) {
                go(routine, at);
            } else if (word == Word.CALL) {
                enterMeant(routine.targetOf(at));
            } else if (word == Word.INDIRECT) {
                enterSlot(routine.numbers[at]);
            } else {
                move(routine, at);
            }
        }

        private void move(Routine routine, int at) {
            int a = routine.numbers[at];
            switch (routine.words[at]) {
                case Word.CONST:
                    push(a);
                    break;
                case Word.GET:
                    push(stack[floors[depth - 1] + a]);
                    break;
                case Word.SET:
                    stack[floors[depth - 1] + a] = pop();
                    break;
                case Word.SELECT:
                    select();
                    break;
                case Word.DROP:
                    pop();
                    break;
                case Word.ADDRESS:
                    push(routine.addressOf(at));
                    break;
                case Word.SLOT:
                    push(routine.slotOf(at));
                    break;
                default:
                    push(MEMORY_BYTES);
                    break;
            }
        }

        private void select() {
            long chosen = pop();
            long otherwise = pop();
            long first = pop();
            push(chosen != 0 ? first : otherwise);
        }

        private void reckon(int word) {
            long upper = pop();
            long lower = pop();
            if (word == Word.DIV || word == Word.REM) {
                divide(word, lower, upper);
            } else {
                push(Word.reckon(word, lower, upper));
            }
        }

        private void divide(int word, long lower, long upper) {
            if (upper == 0 || word == Word.DIV && lower == LEAST && upper == -1) {
                end = END_DIVISION;
            } else {
                push(word == Word.DIV ? lower / upper : lower % upper);
            }
        }

        private void access(int word, int offset) {
            boolean stores = word == Word.STORE || word == Word.STORE1;
            int width = word == Word.LOAD || word == Word.STORE ? 8 : 1;
            long stored = stores ? pop() : 0;
            long address = pop();
            // Looked at before the offset is added, so that no sum can wrap.
            if (address < 0 || address > MEMORY_BYTES - width - offset) {
                end = END_ADDRESS;
                return;
            }
            int from = (int) address + offset;
            if (stores) {
                putBytes(bytes, from, width, stored);
            } else {
                push(loaded(from, width));
            }
        }

        private long loaded(int from, int width) {
            long sum = 0;
            for (int i = 0; i < width; i++) {
                sum |= (bytes[from + i] & 255L) << (8 * i);
            }
            return sum;
        }

        private void go(Routine routine, int at) {
            switch (routine.words[at]) {
                case Word.IF:
                    if (pop() == 0) {
                        nexts[depth - 1] = routine.goals[at];
                    }
                    break;
                case Word.ELSE:
                    nexts[depth - 1] = routine.ends[at];
                    break;
                case Word.BR:
                    jump(routine, routine.goals[at]);
                    break;
                case Word.BRIF:
                    if (pop() != 0) {
                        jump(routine, routine.goals[at]);
                    }
                    break;
                case Word.RETURN:
                    jump(routine, NONE);
                    break;
                default:
                    break;
            }
        }

        private void jump(Routine routine, int opener) {
            if (opener == NONE) {
                nexts[depth - 1] = routine.size;
                return;
            }
            boolean toLoop = routine.words[opener] == Word.LOOP;
            int below = floors[depth - 1] + routine.parameters + routine.locals + routine.bases[opener];
            keep(below, toLoop ? 0 : routine.numbers[opener]);
            nexts[depth - 1] = (toLoop ? opener : routine.ends[opener]) + 1;
        }

        private void enterMeant(Routine target) {
            if (target == null) {
                end = END_MISSING;
            } else {
                enter(target);
            }
        }

        private void enterSlot(int signature) {
            long slot = pop();
            if (slots == null || slot < 1 || slot > slots.size()) {
                end = END_SLOT;
                return;
            }
            Routine target = slots.get((int) slot - 1);
            if (target.signature() != signature) {
                end = END_SIGNATURE;
            } else {
                enter(target);
            }
        }

        /** Drops what is between below and the upper values, of which there is one at most. */
        private void keep(int below, int many) {
            long kept = many == 0 ? 0 : pop();
            height = below;
            if (many != 0) {
                push(kept);
            }
        }

        private void push(long pushed) {
            if (height < stack.length) {
                stack[height] = pushed;
                height++;
            }
        }

        private long pop() {
            if (height <= 0) {
                return 0;
            }
            height--;
            return stack[height];
        }
    }
}
