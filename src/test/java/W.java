/** The words of the machine as the document numbers them, and short ways to write objects. */
final class W {
    static final int CONST = 0, GET = 1, SET = 2, ADD = 3, SUB = 4, MUL = 5, DIV = 6, REM = 7;
    static final int AND = 8, OR = 9, XOR = 10, SHL = 11, SHRS = 12, SHRU = 13, EQ = 14, LTS = 15, LTU = 16;
    static final int SELECT = 17, DROP = 18, LOAD = 19, STORE = 20, LOAD1 = 21, STORE1 = 22;
    static final int BLOCK = 23, LOOP = 24, IF = 25, ELSE = 26, END = 27, BR = 28, BRIF = 29, RETURN = 30;
    static final int CALL = 31, INDIRECT = 32, ADDRESS = 33, SLOT = 34, SIZE = 35;

    static final int FUNCTION = 0, DATA = 1, STRONG = 0, WEAK = 1, LOCAL = 2, NONE = ObjectLinker.NONE;

    private W() {
    }

    /** A linker with as many empty objects. */
    static ObjectLinker objects(int many) {
        ObjectLinker x = new ObjectLinker();
        for (int i = 0; i < many; i++) {
            x.object();
        }
        return x;
    }

    /** A function with this code, written as words that each stand before their numbers. */
    static int function(ObjectLinker x, int object, int parameters, int results, int locals, int... pairs) {
        int number = x.function(object, parameters, results, locals);
        append(x, object, number, pairs);
        return number;
    }

    static void append(ObjectLinker x, int object, int function, int... pairs) {
        for (int i = 0; i < pairs.length; i += 2) {
            x.code(object, function, pairs[i], pairs[i + 1]);
        }
    }

    /** fill(), as a call that has an answer. */
    static long fill(ObjectLinker x, int object, int segment, int i, long v) {
        x.fill(object, segment, i, v);
        return 0;
    }

    /** A linker with one object that has one function. */
    static ObjectLinker single(int parameters, int results, int locals, int... pairs) {
        ObjectLinker x = objects(1);
        function(x, 0, parameters, results, locals, pairs);
        return x;
    }

    static void linked(String what, ObjectLinker x) {
        faulty(what, x, 0, NONE);
    }

    static void faulty(String what, ObjectLinker x, int fault, int place) {
        Check.same(what + ": link()", x.link(), fault);
        Check.same(what + ": place()", x.place(), place);
    }

    /** The bytes of the module, as numbers with a blank between them. */
    static String bytes(ObjectLinker x) {
        StringBuilder text = new StringBuilder();
        for (int i = 0; i < x.count(0); i++) {
            text.append(i == 0 ? "" : " ").append(x.byteAt(i));
        }
        return text.toString();
    }
}
