/** The boundary cases of promises 10 and 11, a method for each sentence that names one. */
public final class ModuleEdgesTest {
    public static void main(String[] args) {
        countHasItsBounds();
        countOfWhatIsNotLinked();
        countOfNothing();
        countOfTheMost();
        byteAtHasItsBounds();
        byteAtOfWhatIsNotLinked();
        bytesAreNotBelow0();
        sevenBitsAByte();
        signedNumbersAtTheirEdges();
        addressesAreSigned();
        wideNumbersHaveFiveBytes();
        lengthsOfFunctions();
        lengthsOfTheCode();
        lengthsOfTheData();
        slotsStandIfThereAreSome();
        segmentsStandIfThereAreSome();
        localsAreNoneOrOneRow();
        everyTypeOnce();
        typesOfIndirectComeLater();
        aFunctionThatIsNotThere();
        theModuleIsWrittenAnew();
        Check.end();
    }

    private static final String HEAD = "0 97 115 109 1 0 0 0";

    private static void due(String what, ObjectLinker x, String bytes) {
        W.linked(what, x);
        Check.text(what, W.bytes(x), HEAD + " " + bytes);
    }

    /** Whether these bytes stand in the module. */
    private static void has(String what, ObjectLinker x, String bytes) {
        String all = " " + W.bytes(x) + " ";
        Check.same(what + ": " + bytes + " in" + all, all.contains(" " + bytes + " ") ? 1 : 0, 1);
    }

    /** A number of one byte or two. */
    private static String number(int value) {
        return value < 128 ? Integer.toString(value) : value % 128 + 128 + " " + value / 128;
    }

    // Promise 10

    /** "What = 0 .. 4": "Illegal argument", whether it is linked or not. */
    private static void countHasItsBounds() {
        ObjectLinker x = W.objects(1);
        Check.argument("what -1 of what is not linked", () -> x.count(-1));
        Check.argument("what 5 of what is not linked", () -> x.count(5));
        W.linked("one", x);
        Check.bounds("what", 0, 4, x::count);
    }

    /** "Illegal state: nothing is linked." */
    private static void countOfWhatIsNotLinked() {
        for (int what = 0; what < 5; what++) {
            int asked = what;
            ObjectLinker x = W.objects(1);
            Check.state("before link()", () -> x.count(asked));
            x.link();
            x.function(0, 0, 1, 0);
            Check.state("behind a change", () -> x.count(asked));
            x.link();
            Check.state("behind a fault", () -> x.count(asked));
        }
    }

    private static void counts(String what, ObjectLinker x, int... due) {
        W.linked(what, x);
        for (int i = 0; i < due.length; i++) {
            Check.same(what + ": count(" + i + ")", x.count(i), due[i]);
        }
    }

    /** Nothing is there of a kind. */
    private static void countOfNothing() {
        counts("an empty object", W.objects(1), 28, 0, 0, 0, 16);
        counts("six empty objects", W.objects(6), 28, 0, 0, 0, 16);
        counts("one function", W.single(0, 0, 0), 28 + 3 + 1 + 3, 1, 1, 0, 16);
        ObjectLinker x = W.objects(1);
        x.segment(0, 1, 4);
        counts("one segment", x, 28 + 9, 0, 0, 0, 17);
        x.symbol(0, 0, W.DATA, W.STRONG, 0, 1);
        x.symbol(0, 1, W.FUNCTION, W.WEAK, W.NONE, 9);
        counts("symbols are not written", x, 28 + 9, 0, 0, 0, 17);
    }

    /** As many as there can be: 48 functions and slots, 10 types, 1024 bytes. */
    private static void countOfTheMost() {
        ObjectLinker x = W.objects(6);
        for (int i = 0; i < 48; i++) {
            int signature = i % 10;
            int function = x.function(i / 8, signature / 2, signature % 2, 0);
            W.append(x, i / 8, function, W.SLOT, function);
            x.code(i / 8, function, signature % 2 == 1 ? W.RETURN : W.DROP, 0);
            x.symbol(i / 8, function, W.FUNCTION, W.LOCAL, function, 0);
        }
        for (int i = 0; i < 16; i++) {
            x.segment(i / 4, i < 15 ? 64 : 48, 0);
        }
        int types = 2 + 1 + 10 * 3 + 2 * 10 + 5;
        int functions = 2 + 1 + 48;
        int slots = 2 + 6 + 48;
        int code = 3 + 1 + 48 * (1 + 1 + 6 + 1 + 1);
        int data = 3 + 1 + 16 * 5 + 15 + 1008;
        counts("the most", x, 8 + types + functions + 6 + 5 + slots + code + data, 48, 10, 48, 1024);
        has("the table", x, "4 4 1 112 0 49 5 3 1 0 1 9 54 1 0 65 1 11 48 0 1 2 3");
        has("the data", x, "11 208 8 16 0 65 16 11 64 0");
    }

    // Promise 11

    /** "Illegal argument: there is none such": the first byte, the last one, and those beside them. */
    private static void byteAtHasItsBounds() {
        ObjectLinker x = W.single(0, 0, 0);
        W.linked("one", x);
        Check.bounds("byte", 0, x.count(0) - 1, x::byteAt);
        Check.same("the first", x.byteAt(0), 0);
        Check.same("the second", x.byteAt(1), 97);
        Check.same("the last", x.byteAt(x.count(0) - 1), 11);
    }

    /** "Illegal state: nothing is linked." */
    private static void byteAtOfWhatIsNotLinked() {
        ObjectLinker x = W.single(0, 0, 0);
        Check.state("byte 0 before link()", () -> x.byteAt(0));
        Check.argument("byte -1 before link()", () -> x.byteAt(-1));
        Check.argument("the least byte before link()", () -> x.byteAt(Integer.MIN_VALUE));
        W.linked("one", x);
        int last = x.count(0) - 1;
        x.code(0, 0, W.SIZE, 0);
        Check.state("byte 0 behind a change", () -> x.byteAt(0));
        Check.state("the last byte behind a change", () -> x.byteAt(last));
        W.faulty("a fault", x, 2, 1);
        Check.state("byte 0 behind a fault", () -> x.byteAt(0));
        Check.argument("byte -1 behind a fault", () -> x.byteAt(-1));
    }

    /** A byte is 0 .. 255. */
    private static void bytesAreNotBelow0() {
        ObjectLinker x = W.objects(1);
        x.segment(0, 8, 0);
        x.fill(0, 0, 0, 0x8000ff807f01feL);
        due("bytes of data", x, "1 1 0 3 1 0 4 4 1 112 0 1 5 3 1 0 1 10 1 0 11 14 1 0 65 16 11 8 254 1 127 128 255 0 128 0");
    }

    /** "Seven bits a byte, the lowest first, with 128 added to all bytes but the last." */
    private static void sevenBitsAByte() {
        int[] numbers = {0, 1, 63, 64, 127, 128, 129, 255, 256, 999, 1000};
        String[] bytes = {"0", "1", "63", "64", "127", "128 1", "129 1", "255 1", "128 2", "231 7", "232 7"};
        int[] words = {W.LOAD, W.LOAD1};
        String[] opcodes = {"41 3", "49 0"};
        for (int i = 0; i < numbers.length; i++) {
            for (int k = 0; k < words.length; k++) {
                ObjectLinker x = W.single(0, 1, 0, W.CONST, 0, words[k], numbers[i]);
                W.linked("LOAD " + numbers[i], x);
                has("LOAD " + numbers[i], x, "66 0 " + opcodes[k] + " " + bytes[i] + " 11");
            }
        }
    }

    /** "Signed ones likewise, until the rest is all like the highest bit that was written." */
    private static void signedNumbersAtTheirEdges() {
        long edge = 64;
        for (int bytes = 1; bytes <= 4; bytes++) {
            constant((int) edge - 1, bytes);
            constant((int) edge, bytes + 1);
            constant((int) -edge, bytes);
            constant((int) -edge - 1, bytes + 1);
            edge *= 128;
        }
        constant(0, 1);
        constant(-1, 1);
        constant(Integer.MAX_VALUE, 5);
        constant(Integer.MIN_VALUE, 5);
    }

    private static void constant(int value, int bytes) {
        ObjectLinker x = W.single(0, 1, 0, W.CONST, value);
        W.linked("CONST " + value, x);
        int from = x.count(0) - 1 - bytes;
        Check.same("CONST " + value + " has its word before " + bytes + " bytes", x.byteAt(from - 1), 66);
        Check.same("and how many bytes the function has", x.byteAt(from - 3), bytes + 3);
        long sum = 0;
        for (int i = 0; i < bytes; i++) {
            int read = x.byteAt(from + i);
            Check.same("128 is added to all but the last", read / 128, i < bytes - 1 ? 1 : 0);
            sum |= (read % 128L) << (7 * i);
        }
        int unused = 64 - 7 * bytes;
        Check.same("CONST " + value + " read again", sum << unused >> unused, value);
    }

    /** "Its address (signed)": 63 has one byte, 64 two. */
    private static void addressesAreSigned() {
        int[] addresses = {17, 63, 64, 65, 79};
        String[] bytes = {"17", "63", "192 0", "193 0", "207 0"};
        for (int i = 0; i < addresses.length; i++) {
            ObjectLinker x = W.objects(1);
            x.segment(0, addresses[i] - 16, 0);
            x.segment(0, 1, 0);
            x.fill(0, 1, 0, 99);
            W.linked("two segments", x);
            has("an address", x, "0 65 " + bytes[i] + " 11 1 99");
        }
        for (int last = 47; last <= 48; last++) {
            ObjectLinker x = W.objects(4);
            for (int i = 0; i < 15; i++) {
                x.segment(i / 4, i < 14 ? 64 : 111 - last, 0);
            }
            x.segment(3, last, 0);
            x.object();
            x.segment(4, 1, 0);
            W.linked("many segments", x);
            has("the address " + (1023 - last), x, "0 65 " + (last == 47 ? "208 7" : "207 7") + " 11 " + last + " 0");
            has("the address 1023", x, "0 65 255 7 11 1 0");
        }
    }

    /** "WIDE ones have five bytes always." */
    private static void wideNumbersHaveFiveBytes() {
        int[] addresses = {0, 16, 127, 128, 1023, 1024};
        String[] bytes = {"128 128 128 128 0", "144 128 128 128 0", "255 128 128 128 0", "128 129 128 128 0",
            "255 135 128 128 0", "128 136 128 128 0"};
        ObjectLinker x = W.objects(4);
        for (int i = 0; i < 16; i++) {
            x.segment(i / 4, i < 15 ? 64 : 48, 0);
        }
        x.symbol(0, 0, W.DATA, W.WEAK, W.NONE, 0);
        x.symbol(0, 1, W.DATA, W.STRONG, 0, 0);
        x.symbol(0, 2, W.DATA, W.STRONG, 1, 47);
        x.symbol(0, 3, W.DATA, W.STRONG, 1, 48);
        x.symbol(0, 4, W.DATA, W.STRONG, W.NONE, 0);
        x.symbol(0, 5, W.DATA, W.STRONG, W.NONE, 0);
        x.symbol(3, 4, W.DATA, W.STRONG, 3, 47);
        x.symbol(3, 5, W.DATA, W.STRONG, 3, 48);
        x.function(0, 0, 0, 0);
        for (int i = 0; i < addresses.length; i++) {
            W.append(x, 0, 0, W.ADDRESS, i, W.DROP, 0);
        }
        W.linked("addresses", x);
        for (int i = 0; i < addresses.length; i++) {
            Check.same("the address", x.meant(0, i, 0), addresses[i]);
            has("the address " + addresses[i], x, "66 " + bytes[i] + " 26");
        }
        wideFunctions();
    }

    private static void wideFunctions() {
        ObjectLinker x = W.objects(6);
        for (int i = 0; i < 48; i++) {
            x.function(i / 8, i == 47 ? 1 : 0, 0, 0);
        }
        x.symbol(5, 0, W.FUNCTION, W.LOCAL, 7, 0);
        x.symbol(5, 1, W.FUNCTION, W.LOCAL, 6, 0);
        W.append(x, 5, 7, W.CALL, 1, W.SLOT, 0, W.INDIRECT, 0, W.GET, 0, W.CALL, 0, W.GET, 0, W.SIZE, 0, W.INDIRECT, 2);
        W.linked("wide functions, slots and types", x);
        has("them", x, "16 174 128 128 128 0 66 129 128 128 128 0 167 17 128 128 128 128 0 0"
                + " 32 0 16 175 128 128 128 0 32 0 66 128 8 167 17 129 128 128 128 0 0 11");
    }

    /** "Of each how many bytes it has": at the edge of one byte and two. */
    private static void lengthsOfFunctions() {
        for (int many = 53; many <= 57; many++) {
            for (int locals = 0; locals < 2; locals++) {
                ObjectLinker x = W.single(0, 0, locals);
                for (int i = 0; i < many; i++) {
                    x.code(0, 0, i % 2 == 0 ? W.CONST : W.DROP, i % 4 == 0 ? 100000 : 100);
                }
                x.code(0, 0, W.RETURN, 0);
                int size = 1 + 2 * locals + 2;
                for (int i = 0; i < many; i++) {
                    size += i % 2 == 1 ? 1 : i % 4 == 0 ? 4 : 3;
                }
                W.linked("a function of " + size + " bytes", x);
                int section = size + 1 + (size >= 128 ? 2 : 1);
                has(size + " bytes", x, "10 " + number(section) + " 1 " + number(size) + (locals == 0 ? " 0" : " 1 1 126"));
                Check.same("all bytes", x.count(0), 8 + 6 + 4 + 6 + 5 + (section >= 128 ? 3 : 2) + section);
            }
        }
    }

    /** "A byte, how many bytes follow": the code's section with 127 bytes and with 128. */
    private static void lengthsOfTheCode() {
        for (int last = 0; last < 3; last++) {
            ObjectLinker x = W.objects(1);
            for (int i = 0; i < 3; i++) {
                W.function(x, 0, 0, 0, 0);
                for (int k = 0; k < 9; k++) {
                    W.append(x, 0, i, W.CONST, 64, W.DROP, 0);
                }
            }
            W.function(x, 0, 0, 0, 0);
            int size = 1 + 3 * (1 + 2 + 36) + 1 + 2;
            for (int k = 0; k < 6 + last; k++) {
                x.code(0, 3, W.RETURN, 0);
                size++;
            }
            W.linked("a section of " + size, x);
            has(size + " bytes", x, "5 3 1 0 1 10 " + number(size) + " 4 38 0");
        }
    }

    /** "How many bytes follow" of the data: with 127 bytes and with 128. */
    private static void lengthsOfTheData() {
        for (int second = 52; second < 55; second++) {
            ObjectLinker x = W.objects(1);
            x.segment(0, 63, 0);
            x.segment(0, second, 0);
            W.linked("two segments", x);
            int size = 1 + 5 + 63 + 6 + second;
            Check.same("where it is", x.byteAt(28), 11);
            has(size + " bytes", x, "10 1 0 11 " + number(size) + " 2 0 65 16 11 63");
            Check.same("all bytes", x.count(0), 28 + 1 + (size < 128 ? 1 : 2) + size);
        }
    }

    /** "9, if there are slots": not for a SLOT word of a function that is not there. */
    private static void slotsStandIfThereAreSome() {
        ObjectLinker x = W.objects(1);
        x.symbol(0, 0, W.FUNCTION, W.WEAK, W.NONE, 0);
        W.function(x, 0, 0, 1, 0, W.SLOT, 0);
        String types = "1 5 1 96 0 1 126 3 2 1 0";
        due("no slots", x, types + " 4 4 1 112 0 1 5 3 1 0 1 10 10 1 8 0 66 128 128 128 128 0 11");
        x.symbol(0, 0, W.FUNCTION, W.STRONG, 0, 0);
        due("one slot", x, types + " 4 4 1 112 0 2 5 3 1 0 1 9 7 1 0 65 1 11 1 0 10 10 1 8 0 66 129 128 128 128 0 11");
    }

    /** "11, if there are segments": with all their bytes, also if they are 0. */
    private static void segmentsStandIfThereAreSome() {
        ObjectLinker x = W.objects(2);
        String before = "1 1 0 3 1 0 4 4 1 112 0 1 5 3 1 0 1 10 1 0";
        due("no segments", x, before);
        x.segment(1, 1, 0);
        due("one byte", x, before + " 11 7 1 0 65 16 11 1 0");
        x.segment(0, 2, 1);
        due("two segments", x, before + " 11 14 2 0 65 16 11 2 0 0 0 65 18 11 1 0");
    }

    /** "How many locals: 0, or 1, their number, 126": parameters are none. */
    private static void localsAreNoneOrOneRow() {
        for (int parameters = 0; parameters < 5; parameters++) {
            for (int locals = 0; locals < 5; locals++) {
                ObjectLinker x = W.single(parameters, 0, locals);
                String values = " 126".repeat(parameters);
                String body = locals == 0 ? "10 4 1 2 0 11" : "10 6 1 4 1 " + locals + " 126 11";
                due(parameters + " parameters, " + locals + " locals", x, "1 " + (4 + parameters) + " 1 96 " + parameters
                        + values + " 0 3 2 1 0 4 4 1 112 0 1 5 3 1 0 1 " + body);
            }
        }
    }

    /** "TYPES: .. in the order in which functions have them first": locals do not matter. */
    private static void everyTypeOnce() {
        ObjectLinker x = W.objects(2);
        x.function(1, 0, 0, 1);
        x.function(0, 4, 0, 0);
        x.function(0, 0, 0, 2);
        x.function(0, 4, 0, 3);
        due("two types of four functions", x, "1 11 2 96 4 126 126 126 126 0 96 0 0 3 5 4 0 1 0 1 4 4 1 112 0 1 5 3 1 0 1"
                + " 10 19 4 2 0 11 4 1 2 126 11 4 1 3 126 11 4 1 1 126 11");
        Check.same("how many", x.count(2), 2);
    }

    /** "Then INDIRECT words (those that are not there before)": also such as nothing gets to. */
    private static void typesOfIndirectComeLater() {
        ObjectLinker x = W.objects(2);
        W.function(x, 0, 0, 0, 0, W.RETURN, 0, W.INDIRECT, 2, W.INDIRECT, 0, W.INDIRECT, 2, W.INDIRECT, 9, W.DROP, 0);
        x.function(1, 1, 0, 0);
        W.linked("types of INDIRECT", x);
        Check.same("0, 2 and 9", x.count(2), 3);
        has("in their order", x, "1 16 3 96 0 0 96 1 126 0 96 4 126 126 126 126 1 126 3 3 2 0 1");
        has("in the words", x, "167 17 129 128 128 128 0 0 167 17 128 128 128 128 0 0 167 17 129 128 128 128 0 0"
                + " 167 17 130 128 128 128 0 0 26");
    }

    /** "(A function that is not there is called as 0 instead of 16, without a number.)" */
    private static void aFunctionThatIsNotThere() {
        ObjectLinker x = W.objects(1);
        x.symbol(0, 0, W.FUNCTION, W.WEAK, W.NONE, 3);
        W.function(x, 0, 1, 1, 0, W.GET, 0, W.CALL, 0);
        String before = "1 6 1 96 1 126 1 126 3 2 1 0 4 4 1 112 0 1 5 3 1 0 1";
        due("it is not there", x, before + " 10 7 1 5 0 32 0 0 11");
        x.symbol(0, 0, W.FUNCTION, W.WEAK, 0, 0);
        due("it is there", x, before + " 10 12 1 10 0 32 0 16 128 128 128 128 0 11");
    }

    /** Nothing of an earlier module is left, whether it was larger or smaller. */
    private static void theModuleIsWrittenAnew() {
        ObjectLinker x = W.objects(1);
        x.symbol(0, 0, W.FUNCTION, W.WEAK, W.NONE, 0);
        x.function(0, 0, 0, 0);
        W.append(x, 0, 0, W.SLOT, 0, W.DROP, 0);
        W.linked("small", x);
        int small = x.count(0);
        String bytes = W.bytes(x);
        W.linked("small again", x);
        Check.text("the same bytes", W.bytes(x), bytes);
        x.symbol(0, 0, W.FUNCTION, W.WEAK, 0, 0);
        W.linked("with a slot", x);
        Check.same("a slot more", x.count(0), small + 9);
        Check.argument("behind its last byte", () -> x.byteAt(small + 9));
        x.object();
        W.linked("with an empty object", x);
        Check.same("as many", x.count(0), small + 9);
    }
}
