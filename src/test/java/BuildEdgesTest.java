import java.util.function.IntToLongFunction;

/** The boundary cases of promises 1 to 7, a method for each sentence that names one. */
public final class BuildEdgesTest {
    private static final int[] ANY = {Integer.MIN_VALUE, -1, 0, 1, 1000000, Integer.MAX_VALUE};

    public static void main(String[] args) {
        noObjects();
        noObjectsForCallsWithNumbers();
        objectsAreNumberedAsTheyCome();
        thereAreSixObjects();
        nothingIsLinkedAnyMore();
        parametersResultsAndLocals();
        functionsOfNoSuchObject();
        theObjectHasEightFunctions();
        theWordIs0To35();
        anyNumberOfAnyWord();
        wordsOfNoSuchFunction();
        aFunctionHasSixtyWords();
        sizesAndPowersOfSegments();
        segmentsOfNoSuchObject();
        theObjectHasFourSegments();
        bytesAreZeroAtFirst();
        eightAtMostAndNoMoreThanItHas();
        theLowestFirst();
        fillsOfNoSuchByte();
        namesKindsAndBindings();
        whatSymbolsDefine();
        offsetsOfData();
        offsetsOfFunctions();
        theObjectHasSixteenSymbols();
        Check.end();
    }

    // Promise 1

    /** "No objects." */
    private static void noObjects() {
        Check.state("link() of a new object", () -> new ObjectLinker().link());
        Check.same("place() of a new object", new ObjectLinker().place(), W.NONE);
        Check.same("the first object of a new object", new ObjectLinker().object(), 0);
        for (int what = 0; what < 5; what++) {
            int asked = what;
            Check.state("count of a new object", () -> new ObjectLinker().count(asked));
        }
        Check.state("byteAt of a new object", () -> new ObjectLinker().byteAt(0));
        for (int what = 0; what < 3; what++) {
            Check.same("told of a new object", new ObjectLinker().told(what), 0);
        }
        Check.same("the first byte of a new object", new ObjectLinker().memory(0), 0);
        Check.same("the last byte of a new object", new ObjectLinker().memory(1023), 0);
    }

    /** "No objects": whatever number of an object is given, there is none such. */
    private static void noObjectsForCallsWithNumbers() {
        for (int object = -1; object < 7; object++) {
            int o = object;
            ObjectLinker x = new ObjectLinker();
            Check.argument("function", () -> x.function(o, 0, 0, 0));
            Check.argument("code", () -> x.code(o, 0, 0, 0));
            Check.argument("segment", () -> x.segment(o, 1, 0));
            Check.argument("fill", () -> W.fill(x, o, 0, 0, 0));
            Check.argument("symbol", () -> x.symbol(o, 0, 0, 0, W.NONE, 0));
            Check.argument("meant", () -> x.meant(o, 0, 0));
            Check.argument("run", () -> x.run(o, 0, 0, 0, 0));
        }
    }

    // Promise 2

    /** "OBJECTS are 0 .. 5 as they come." */
    private static void objectsAreNumberedAsTheyCome() {
        ObjectLinker x = new ObjectLinker();
        for (int i = 0; i < 6; i++) {
            int next = i;
            Check.argument("before object " + i, () -> x.function(next, 0, 0, 0));
            Check.same("object " + i, x.object(), i);
            Check.same("its first function", x.function(i, 0, 0, 0), 0);
        }
    }

    /** "Illegal state: there are 6." */
    private static void thereAreSixObjects() {
        ObjectLinker x = W.objects(5);
        Check.same("the sixth", x.object(), 5);
        W.linked("six", x);
        Check.state("the seventh", x::object);
        Check.state("the seventh again", x::object);
        Check.same("it is linked still", x.count(1), 0);
        Check.argument("there is no object 6", () -> x.segment(6, 1, 0));
    }

    /** "Nothing is linked any more, as behind function(), code(), segment(), fill(), symbol()." */
    private static void nothingIsLinkedAnyMore() {
        unlinks("object", x -> x.object());
        unlinks("function", x -> x.function(0, 0, 0, 0));
        unlinks("code", x -> x.code(0, 0, W.RETURN, 0));
        unlinks("segment", x -> x.segment(0, 1, 0));
        unlinks("fill with other bytes", x -> W.fill(x, 0, 0, 0, 5));
        unlinks("fill with the same bytes", x -> W.fill(x, 0, 0, 0, 0));
        unlinks("symbol", x -> x.symbol(0, 0, W.FUNCTION, W.WEAK, W.NONE, 0));
    }

    private interface Change {
        long of(ObjectLinker x);
    }

    private static void unlinks(String what, Change change) {
        ObjectLinker x = W.single(0, 0, 0);
        x.segment(0, 8, 0);
        x.symbol(0, 1, W.DATA, W.STRONG, 0, 0);
        W.linked("before " + what, x);
        change.of(x);
        Check.state("count behind " + what, () -> x.count(0));
        Check.state("byteAt behind " + what, () -> x.byteAt(0));
        Check.state("meant behind " + what, () -> x.meant(0, 0, 0));
        Check.state("run behind " + what, () -> x.run(0, 0, 0, 0, 2000));
        Check.same("place behind " + what, x.place(), W.NONE);
        W.linked("again behind " + what, x);
        Check.same("the run again behind " + what, x.run(0, 0, 0, 0, 2000), 0);
    }

    // Promise 3

    /** "PARAMETERS (0 .. 4), RESULTS (0 or 1), LOCALS (0 .. 4 ..)", each alone and all at their edges. */
    private static void parametersResultsAndLocals() {
        Check.bounds("parameters", 0, 4, n -> W.objects(1).function(0, n, 0, 0));
        Check.bounds("results", 0, 1, n -> W.objects(1).function(0, 0, n, 0));
        Check.bounds("locals", 0, 4, n -> W.objects(1).function(0, 0, 0, n));
        Check.bounds("parameters beside the most of all", 0, 4, n -> W.objects(1).function(0, n, 1, 4));
        Check.bounds("results beside the most of all", 0, 1, n -> W.objects(1).function(0, 4, n, 4));
        Check.bounds("locals beside the most of all", 0, 4, n -> W.objects(1).function(0, 4, 1, n));
    }

    /** "There is no such thing": the object's number. */
    private static void functionsOfNoSuchObject() {
        Check.bounds("the only object", 0, 0, n -> W.objects(1).function(n, 0, 0, 0));
        Check.bounds("one of six", 0, 5, n -> W.objects(6).function(n, 0, 0, 0));
    }

    /** "Illegal state: the object has 8"; each object counts its own. */
    private static void theObjectHasEightFunctions() {
        ObjectLinker x = W.objects(6);
        for (int object = 0; object < 6; object++) {
            int o = object;
            for (int i = 0; i < 8; i++) {
                Check.same("function " + i, x.function(object, i % 5, i % 2, 4 - i % 5), i);
            }
            Check.state("the ninth of object " + object, () -> x.function(o, 0, 0, 0));
            Check.argument("there is no function 8", () -> x.code(o, 8, 0, 0));
            Check.same("there is a function 7", x.code(o, 7, 0, 0), 0);
        }
    }

    // Promise 4

    /** "Illegal argument: the word is not 0 .. 35." */
    private static void theWordIs0To35() {
        Check.bounds("word", 0, 35, n -> W.single(0, 0, 0).code(0, 0, n, 0));
    }

    /** A word's number is looked at when it is linked, so that code() takes any. */
    private static void anyNumberOfAnyWord() {
        for (int word = 0; word < 36; word++) {
            ObjectLinker x = W.single(0, 0, 0);
            for (int i = 0; i < ANY.length; i++) {
                Check.same("word " + word + " with " + ANY[i], x.code(0, 0, word, ANY[i]), i);
            }
        }
    }

    /** "There is no such thing": the object's number, and the function's. */
    private static void wordsOfNoSuchFunction() {
        Check.bounds("object of a word", 0, 0, n -> W.single(0, 0, 0).code(n, 0, 0, 0));
        Check.bounds("function of a word", 0, 0, n -> W.single(0, 0, 0).code(0, n, 0, 0));
        Check.bounds("function of eight", 0, 7, n -> eightFunctions().code(0, n, 0, 0));
        Check.argument("the other object has none", () -> {
            ObjectLinker x = W.single(0, 0, 0);
            x.object();
            return x.code(1, 0, 0, 0);
        });
    }

    private static ObjectLinker eightFunctions() {
        ObjectLinker x = W.objects(1);
        for (int i = 0; i < 8; i++) {
            x.function(0, 0, 0, 0);
        }
        return x;
    }

    /** "Illegal state: it has 60"; each function counts its own. */
    private static void aFunctionHasSixtyWords() {
        ObjectLinker x = eightFunctions();
        for (int function = 0; function < 8; function += 7) {
            int f = function;
            for (int i = 0; i < 60; i++) {
                Check.same("word " + i, x.code(0, function, W.RETURN, 0), i);
            }
            Check.state("word 60", () -> x.code(0, f, W.RETURN, 0));
            Check.state("word 60 of another sort", () -> x.code(0, f, W.SIZE, -1));
        }
        Check.same("a function between them", x.code(0, 3, W.RETURN, 0), 0);
        W.linked("full functions", x);
    }

    // Promise 5

    /** "A SEGMENT has a SIZE (1 .. 64)"; "Illegal argument: the alignment's power is not 0 .. 4." */
    private static void sizesAndPowersOfSegments() {
        Check.bounds("size", 1, 64, n -> W.objects(1).segment(0, n, 0));
        Check.bounds("power", 0, 4, n -> W.objects(1).segment(0, 1, n));
        Check.bounds("size with the greatest power", 1, 64, n -> W.objects(1).segment(0, n, 4));
        Check.bounds("power of the largest", 0, 4, n -> W.objects(1).segment(0, 64, n));
    }

    /** "There is no such thing": the object's number. */
    private static void segmentsOfNoSuchObject() {
        Check.bounds("the only object", 0, 0, n -> W.objects(1).segment(n, 1, 0));
        Check.bounds("one of six", 0, 5, n -> W.objects(6).segment(n, 1, 0));
    }

    /** "Illegal state: the object has 4"; each object counts its own. */
    private static void theObjectHasFourSegments() {
        ObjectLinker x = W.objects(6);
        for (int object = 0; object < 6; object++) {
            int o = object;
            for (int i = 0; i < 4; i++) {
                Check.same("segment " + i, x.segment(object, 1, 0), i);
            }
            Check.state("the fifth of object " + object, () -> x.segment(o, 1, 0));
            Check.argument("there is no segment 4", () -> W.fill(x, o, 4, 0, 0));
            Check.same("there is a segment 3", W.fill(x, o, 3, 0, 0), 0);
        }
    }

    // Promise 6

    /** A linker that has a segment of this size from address 16 on, and one of 64 behind it. */
    private static ObjectLinker withSegment(int size) {
        ObjectLinker x = W.single(0, 0, 0);
        x.segment(0, size, 0);
        x.segment(0, 64, 0);
        return x;
    }

    private static void filled(String what, ObjectLinker x, int address, int due) {
        Check.same(what + ": byte " + address, x.memory(address), due);
    }

    private static void runOnce(ObjectLinker x) {
        W.linked("filled", x);
        Check.same("a run of nothing", x.run(0, 0, 0, 0, 0), 0);
    }

    /** "Bytes (0 at first)." */
    private static void bytesAreZeroAtFirst() {
        ObjectLinker x = withSegment(64);
        runOnce(x);
        for (int address = 0; address < 160; address++) {
            filled("never filled", x, address, 0);
        }
    }

    /** "Byte i of a segment and those behind it, 8 at most and no more than it has." */
    private static void eightAtMostAndNoMoreThanItHas() {
        for (int size : new int[] {1, 2, 7, 8, 9, 15, 16, 17, 63, 64}) {
            for (int i : new int[] {0, 1, size - 9, size - 8, size - 7, size - 2, size - 1}) {
                if (i >= 0 && i < size) {
                    fillOnce(size, i);
                }
            }
        }
    }

    private static void fillOnce(int size, int i) {
        ObjectLinker x = withSegment(size);
        x.fill(0, 0, i, -1);
        runOnce(x);
        for (int at = -2; at < size + 10; at++) {
            boolean set = at >= i && at < i + 8 && at < size;
            filled("size " + size + " from " + i, x, 16 + at, set ? 255 : 0);
        }
    }

    /** "Are those of v, the lowest first": also over bytes that were filled before. */
    private static void theLowestFirst() {
        ObjectLinker x = withSegment(12);
        x.fill(0, 0, 0, 0x0807060504030201L);
        x.fill(0, 0, 4, 0xf8f7f6f5f4f3f2f1L);
        x.fill(0, 0, 11, 0x1234567890abcdefL);
        x.fill(0, 1, 0, Long.MIN_VALUE);
        x.fill(0, 1, 8, Long.MAX_VALUE);
        runOnce(x);
        int[] due = {1, 2, 3, 4, 0xf1, 0xf2, 0xf3, 0xf4, 0xf5, 0xf6, 0xf7, 0xef,
            0, 0, 0, 0, 0, 0, 0, 128, 255, 255, 255, 255, 255, 255, 255, 127, 0};
        for (int i = 0; i < due.length; i++) {
            filled("the lowest first", x, 16 + i, due[i]);
        }
        x.fill(0, 0, 2, 0);
        runOnce(x);
        int[] later = {1, 2, 0, 0, 0, 0, 0, 0, 0, 0, 0xf7, 0xef};
        for (int i = 0; i < later.length; i++) {
            filled("0 is filled, too", x, 16 + i, later[i]);
        }
    }

    /** "There is no such thing": the byte, the segment, the object. */
    private static void fillsOfNoSuchByte() {
        for (int size : new int[] {1, 8, 64}) {
            Check.bounds("byte of " + size, 0, size - 1, n -> W.fill(withSegment(size), 0, 0, n, -1));
        }
        Check.bounds("segment", 0, 1, n -> W.fill(withSegment(1), 0, n, 0, -1));
        Check.bounds("object", 0, 0, n -> W.fill(withSegment(1), n, 0, 0, -1));
        Check.argument("no segment at all", () -> W.fill(W.objects(1), 0, 0, 0, 0));
    }

    // Promise 7

    /** An object with two functions, and three segments with 1, 8 and 64 bytes. */
    private static ObjectLinker furnished() {
        ObjectLinker x = W.objects(2);
        x.function(0, 0, 0, 0);
        x.function(0, 4, 1, 0);
        x.segment(0, 1, 0);
        x.segment(0, 8, 0);
        x.segment(0, 64, 0);
        return x;
    }

    /** "A NAME (0 .. 30), a KIND: 0 .. 1 ..; a BINDING: 0 .. 1 .. 2"; the object's number. */
    private static void namesKindsAndBindings() {
        Check.bounds("name", 0, 30, n -> furnished().symbol(0, n, W.FUNCTION, W.STRONG, W.NONE, 0));
        Check.bounds("name of data", 0, 30, n -> furnished().symbol(0, n, W.DATA, W.LOCAL, 2, 64));
        Check.bounds("kind", 0, 1, n -> furnished().symbol(0, 0, n, W.STRONG, W.NONE, 0));
        Check.bounds("kind of what defines", 0, 1, n -> furnished().symbol(0, 0, n, W.STRONG, 0, 0));
        Check.bounds("binding", 0, 2, n -> furnished().symbol(0, 0, W.FUNCTION, n, W.NONE, 0));
        Check.bounds("binding of data", 0, 2, n -> furnished().symbol(0, 0, W.DATA, n, 0, 0));
        Check.bounds("object", 0, 1, n -> furnished().symbol(n, 0, W.FUNCTION, W.STRONG, W.NONE, 0));
    }

    /** "Defines is a function's or segment's number, or NONE"; "if there is no such function or segment". */
    private static void whatSymbolsDefine() {
        for (int binding = 0; binding < 3; binding++) {
            int b = binding;
            Check.bounds("function", W.NONE, 1, n -> furnished().symbol(0, 0, W.FUNCTION, b, n, 0));
            Check.bounds("segment", W.NONE, 2, n -> furnished().symbol(0, 0, W.DATA, b, n, 0));
            Check.bounds("function of none", W.NONE, -1, n -> furnished().symbol(1, 0, W.FUNCTION, b, n, 0));
            Check.bounds("segment of none", W.NONE, -1, n -> furnished().symbol(1, 0, W.DATA, b, n, 0));
        }
    }

    /** "An OFFSET in it (0 .. its size)", of data that it defines; "else it must be 0". */
    private static void offsetsOfData() {
        for (int binding = 0; binding < 3; binding++) {
            int b = binding;
            Check.bounds("offset in 1 byte", 0, 1, n -> furnished().symbol(0, 0, W.DATA, b, 0, n));
            Check.bounds("offset in 8 bytes", 0, 8, n -> furnished().symbol(0, 0, W.DATA, b, 1, n));
            Check.bounds("offset in 64 bytes", 0, 64, n -> furnished().symbol(0, 0, W.DATA, b, 2, n));
            Check.bounds("offset of no data", 0, 0, n -> furnished().symbol(0, 0, W.DATA, b, W.NONE, n));
        }
    }

    /** "(Of a function that it does not define) what it tells of this one, 0 .. 9; else it must be 0." */
    private static void offsetsOfFunctions() {
        for (int binding = 0; binding < 3; binding++) {
            int b = binding;
            Check.bounds("told", 0, 9, n -> furnished().symbol(0, 0, W.FUNCTION, b, W.NONE, n));
            Check.bounds("told in an empty object", 0, 9, n -> furnished().symbol(1, 0, W.FUNCTION, b, W.NONE, n));
            Check.bounds("offset of function 0", 0, 0, n -> furnished().symbol(0, 0, W.FUNCTION, b, 0, n));
            Check.bounds("offset of function 1", 0, 0, n -> furnished().symbol(0, 0, W.FUNCTION, b, 1, n));
        }
    }

    /** "Illegal state: the object has 16"; each object counts its own. */
    private static void theObjectHasSixteenSymbols() {
        ObjectLinker x = W.objects(6);
        for (int object = 0; object < 6; object++) {
            int o = object;
            IntToLongFunction more = n -> x.symbol(o, n, n % 2, W.WEAK, W.NONE, 0);
            for (int i = 0; i < 16; i++) {
                Check.same("symbol " + i, more.applyAsLong(i), i);
            }
            Check.state("symbol 16 of object " + object, () -> more.applyAsLong(16));
            Check.argument("there is no symbol 16", () -> x.meant(o, 16, 0));
        }
        W.linked("full of symbols", x);
        Check.same("the last one", x.meant(5, 15, 0), 0);
        Check.same("the last but one", x.meant(5, 14, 0), W.NONE);
    }
}
