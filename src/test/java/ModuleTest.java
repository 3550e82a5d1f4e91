/** Promises 10 and 11: the bytes of the module, and how many of what it has. */
public final class ModuleTest {
    private static final String HEAD = "0 97 115 109 1 0 0 0";

    public static void main(String[] args) {
        emptyModule();
        words();
        numbers();
        calls();
        wideNumbers();
        types();
        locals();
        slots();
        data();
        largeModule();
        wrongInputs();
        Check.end();
    }

    private static void due(String what, ObjectLinker x, String bytes) {
        W.linked(what, x);
        String got = W.bytes(x);
        boolean same = got.equals(bytes);
        Check.same(what + "\n got " + got + "\n due " + bytes + "\n same", same ? 1 : 0, 1);
    }

    /** A function with a parameter, a result and a local that has these words, and their bytes. */
    private static void body(String what, String bytes, int... pairs) {
        ObjectLinker x = W.single(1, 1, 1, pairs);
        int size = bytes.split(" ").length + 4;
        String module = HEAD + " 1 6 1 96 1 126 1 126 3 2 1 0 4 4 1 112 0 1 5 3 1 0 1 10 " + (size + 2) + " 1 " + size
                + " 1 1 126 " + bytes + " 11";
        due(what, x, module);
        // None of these words means a symbol, so that it does not matter which there are.
        x.symbol(0, 0, W.FUNCTION, W.LOCAL, 0, 0);
        x.symbol(0, 1, W.FUNCTION, W.STRONG, 0, 0);
        due(what + " beside symbols", x, module);
    }

    private static void emptyModule() {
        due("an object without anything", W.objects(1), HEAD + " 1 1 0 3 1 0 4 4 1 112 0 1 5 3 1 0 1 10 1 0");
        ObjectLinker x = W.objects(6);
        W.linked("six of them", x);
        Check.same("bytes", x.count(0), 8 + 3 + 3 + 6 + 5 + 3);
        Check.same("functions", x.count(1), 0);
        Check.same("types", x.count(2), 0);
        Check.same("slots", x.count(3), 0);
        Check.same("the end", x.count(4), 16);
        due("an empty function", W.single(0, 0, 0), HEAD + " 1 4 1 96 0 0 3 2 1 0 4 4 1 112 0 1 5 3 1 0 1 10 4 1 2 0 11");
    }

    private static void words() {
        int[] opcodes = {124, 125, 126, 127, 129, 131, 132, 133, 134, 135, 136};
        for (int i = 0; i < opcodes.length; i++) {
            body("word " + (3 + i), "32 0 32 1 " + opcodes[i], W.GET, 0, W.GET, 1, 3 + i, 99);
        }
        body("EQ", "32 0 32 1 81 173", W.GET, 0, W.GET, 1, W.EQ, 0);
        body("LTS", "32 0 32 1 83 173", W.GET, 0, W.GET, 1, W.LTS, 0);
        body("LTU", "32 0 32 1 84 173", W.GET, 0, W.GET, 1, W.LTU, 0);
        body("SELECT", "32 0 32 0 32 0 167 27", W.GET, 0, W.GET, 0, W.GET, 0, W.SELECT, 0);
        body("SET, DROP", "32 0 33 1 32 0 32 0 26", W.GET, 0, W.SET, 1, W.GET, 0, W.GET, 0, W.DROP, 0);
        body("LOAD", "32 0 41 3 5", W.GET, 0, W.LOAD, 5);
        body("LOAD1", "32 0 49 0 232 7", W.GET, 0, W.LOAD1, 1000);
        body("STORE", "32 0 32 0 55 3 127 32 0", W.GET, 0, W.GET, 0, W.STORE, 127, W.GET, 0);
        body("STORE1", "32 0 32 0 60 0 128 1 32 0", W.GET, 0, W.GET, 0, W.STORE1, 128, W.GET, 0);
        body("blocks", "2 126 3 64 11 32 0 11", W.BLOCK, 1, W.LOOP, 0, W.END, 0, W.GET, 0, W.END, 0);
        body("other blocks", "3 126 2 64 11 32 0 11", W.LOOP, 1, W.BLOCK, 0, W.END, 0, W.GET, 0, W.END, 0);
        body("IF 1", "32 0 167 4 126 32 0 5 32 1 11", W.GET, 0, W.IF, 1, W.GET, 0, W.ELSE, 0, W.GET, 1, W.END, 0);
        body("IF 0", "32 0 167 4 64 11 32 1", W.GET, 0, W.IF, 0, W.END, 0, W.GET, 1);
        body("BR", "2 64 12 0 11 32 0 12 0", W.BLOCK, 0, W.BR, 0, W.END, 0, W.GET, 0, W.BR, 0);
        body("BRIF", "2 64 32 0 167 13 0 11 32 0 15", W.BLOCK, 0, W.GET, 0, W.BRIF, 0, W.END, 0,
                W.GET, 0, W.RETURN, 0);
        body("SIZE", "66 128 8", W.SIZE, 0);
    }

    private static void numbers() {
        int[] values = {0, 1, 63, 64, 127, 128, 8191, 8192, -1, -64, -65, -128, -8192, -8193, 1 << 20, -(1 << 20),
            (1 << 20) - 1, 1 << 27, (1 << 27) - 1, -(1 << 27), -(1 << 27) - 1, Integer.MAX_VALUE, Integer.MIN_VALUE};
        String[] bytes = {"0", "1", "63", "192 0", "255 0", "128 1", "255 63", "128 192 0", "127", "64", "191 127",
            "128 127", "128 64", "255 191 127", "128 128 192 0", "128 128 64",
            "255 255 63", "128 128 128 192 0", "255 255 255 63", "128 128 128 64", "255 255 255 191 127",
            "255 255 255 255 7", "128 128 128 128 120"};
        for (int i = 0; i < values.length; i++) {
            body("CONST " + values[i], "66 " + bytes[i], W.CONST, values[i]);
        }
    }

    private static void calls() {
        ObjectLinker x = W.objects(2);
        x.symbol(0, 1, W.FUNCTION, W.STRONG, W.NONE, 0);
        x.symbol(0, 2, W.FUNCTION, W.WEAK, W.NONE, 0);
        x.symbol(0, 3, W.DATA, W.WEAK, W.NONE, 0);
        W.function(x, 0, 0, 0, 0, W.CALL, 0, W.CALL, 1, W.ADDRESS, 2, W.DROP, 0, W.SLOT, 1, W.DROP, 0);
        x.function(1, 0, 0, 0);
        x.symbol(1, 1, W.FUNCTION, W.STRONG, 0, 0);
        due("a call, and one of what is not there", x, HEAD + " 1 4 1 96 0 0 3 3 2 0 0 4 4 1 112 0 1 5 3 1 0 1"
                + " 10 28 2 23 0 16 129 128 128 128 0 0 66 128 128 128 128 0 26 66 128 128 128 128 0 26 11 2 0 11");
    }

    private static void wideNumbers() {
        ObjectLinker x = W.objects(4);
        for (int i = 0; i < 15; i++) {
            x.segment(i / 4, 64, 0);
        }
        x.segment(3, 48, 0);
        x.symbol(3, 0, W.DATA, W.STRONG, 3, 48);
        x.symbol(0, 0, W.DATA, W.WEAK, W.NONE, 0);
        W.function(x, 0, 1, 1, 0, W.ADDRESS, 0, W.INDIRECT, 0, W.ADDRESS, 0, W.GET, 0, W.INDIRECT, 3);
        W.linked("wide", x);
        String text = W.bytes(x);
        Check.same("addresses and types", text.contains(" 66 128 136 128 128 0 167 17 129 128 128 128 0 0"
                + " 66 128 136 128 128 0 32 0 167 17 128 128 128 128 0 0 11 ") ? 1 : 0, 1);
        Check.same("the last segment's address", text.contains(" 0 65 208 7 11 48 0 ") ? 1 : 0, 1);
        Check.same("the second segment's address", text.contains(" 0 65 208 0 11 64 0 ") ? 1 : 0, 1);
    }

    private static void types() {
        ObjectLinker x = W.objects(2);
        W.function(x, 1, 0, 1, 0, W.SIZE, 0);
        W.function(x, 1, 2, 0, 0);
        W.function(x, 0, 2, 0, 0, W.SIZE, 0, W.INDIRECT, 0, W.GET, 0, W.GET, 0, W.GET, 0, W.GET, 0, W.SIZE, 0,
                W.INDIRECT, 8, W.SIZE, 0, W.INDIRECT, 1, W.DROP, 0, W.SIZE, 0, W.INDIRECT, 0);
        W.function(x, 0, 1, 1, 0, W.GET, 0);
        W.linked("types", x);
        Check.same("how many", x.count(2), 5);
        String due = HEAD + " 1 25 5 96 2 126 126 0 96 1 126 1 126 96 0 1 126 96 0 0 96 4 126 126 126 126 0 3 5 4 0 1 2 0 ";
        Check.same("in the order in which they come: " + W.bytes(x), W.bytes(x).startsWith(due) ? 1 : 0, 1);
        everyType();
    }

    private static void everyType() {
        ObjectLinker x = W.objects(1);
        x.function(0, 0, 0, 0);
        x.code(0, 0, W.RETURN, 0);
        for (int a = 9; a >= 0; a--) {
            x.code(0, 0, W.INDIRECT, a);
            if (a % 2 == 1) {
                x.code(0, 0, W.DROP, 0);
            }
        }
        W.linked("every type", x);
        Check.same("ten types", x.count(2), 10);
    }

    private static void locals() {
        due("four locals", W.single(2, 0, 4), HEAD + " 1 6 1 96 2 126 126 0 3 2 1 0 4 4 1 112 0 1 5 3 1 0 1 10 6 1 4 1 4 126 11");
    }

    private static void slots() {
        ObjectLinker x = W.objects(1);
        x.function(0, 0, 0, 0);
        x.function(0, 0, 0, 0);
        x.symbol(0, 0, W.FUNCTION, W.LOCAL, 0, 0);
        x.symbol(0, 1, W.FUNCTION, W.LOCAL, 1, 0);
        W.append(x, 0, 0, W.SLOT, 1, W.DROP, 0, W.SLOT, 0, W.DROP, 0);
        due("two slots", x, HEAD + " 1 4 1 96 0 0 3 3 2 0 0 4 4 1 112 0 3 5 3 1 0 1 9 8 1 0 65 1 11 2 1 0"
                + " 10 21 2 16 0 66 129 128 128 128 0 26 66 130 128 128 128 0 26 11 2 0 11");
        Check.same("how many", x.count(3), 2);
    }

    private static void data() {
        ObjectLinker x = W.objects(2);
        x.segment(1, 2, 0);
        x.segment(0, 3, 4);
        x.fill(1, 0, 1, 255);
        x.fill(0, 0, 0, 0x030201);
        due("two segments", x, HEAD + " 1 1 0 3 1 0 4 4 1 112 0 1 5 3 1 0 1 10 1 0 11 16 2 0 65 16 11 3 1 2 3 0 65 19 11 2 0 255");
        Check.same("the end", x.count(4), 21);
    }

    /** Lengths and numbers of functions that take more than one byte. */
    private static void largeModule() {
        ObjectLinker x = W.objects(6);
        for (int object = 0; object < 6; object++) {
            for (int i = 0; i < 8; i++) {
                int function = x.function(object, 0, 0, 0);
                for (int k = 0; k < 30; k++) {
                    x.code(object, function, W.CONST, Integer.MAX_VALUE);
                    x.code(object, function, W.DROP, 0);
                }
            }
        }
        W.linked("large", x);
        int body = 1 + 30 * 7 + 1;
        int code = 1 + 48 * (body + 2);
        Check.same("bytes", x.count(0), 8 + 6 + 2 + 49 + 6 + 5 + 3 + code);
        Check.same("functions", x.count(1), 48);
        int from = 8 + 6 + 2 + 49 + 6 + 5;
        int[] due = {10, code % 128 + 128, code / 128, 48, body % 128 + 128, body / 128, 0, 66, 255, 255, 255, 255, 7, 26};
        for (int i = 0; i < due.length; i++) {
            Check.same("byte " + i + " of the code", x.byteAt(from + i), due[i]);
        }
        Check.same("the last byte", x.byteAt(x.count(0) - 1), 11);
    }

    private static void wrongInputs() {
        ObjectLinker x = W.objects(1);
        Check.argument("what 5", () -> x.count(5));
        Check.argument("what -1", () -> x.count(-1));
        Check.state("count", () -> x.count(4));
        Check.argument("byte -1", () -> x.byteAt(-1));
        Check.state("byte 0", () -> x.byteAt(0));
        Check.state("byte 1000000", () -> x.byteAt(1000000));
        W.linked("one", x);
        Check.argument("what 5 when linked", () -> x.count(5));
        Check.argument("what -1 when linked", () -> x.count(-1));
        Check.argument("byte -1 when linked", () -> x.byteAt(-1));
        int size = x.count(0);
        Check.argument("the byte behind the last", () -> x.byteAt(size));
        Check.same("the last byte", x.byteAt(size - 1), 0);
        Check.argument("a byte far behind", () -> x.byteAt(Integer.MAX_VALUE));
        x.symbol(0, 0, W.FUNCTION, W.STRONG, W.NONE, 0);
        W.faulty("a fault", x, 4, 0);
        Check.state("count behind a fault", () -> x.count(0));
        Check.state("byteAt behind a fault", () -> x.byteAt(0));
    }
}
