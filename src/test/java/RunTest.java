/** Promises 13, 14 and 15: runs, what is told of them, and their memory. */
public final class RunTest {
    private static final long LEAST = Long.MIN_VALUE;

    public static void main(String[] args) {
        arithmetic();
        division();
        stackWords();
        parametersAndLocals();
        memoryWords();
        addresses();
        blocks();
        ifs();
        branches();
        loops();
        calls();
        depth();
        indirect();
        missing();
        symbolsAndSize();
        fuel();
        memoryOfRuns();
        latestRunStays();
        wrongInputs();
        Check.end();
    }

    /** The function 0 of object 0 runs with x, y and much fuel. */
    private static void due(String what, ObjectLinker x, long a, long b, int end, long value, int steps) {
        Check.same(what + ": the end", x.run(0, 0, a, b, 2000), end);
        Check.same(what + ": the value", x.told(0), value);
        Check.same(what + ": the steps", x.told(1), steps);
    }

    private static ObjectLinker linked(int parameters, int results, int locals, int... pairs) {
        ObjectLinker x = W.single(parameters, results, locals, pairs);
        W.linked("to run", x);
        return x;
    }

    private static long reckon(int word, long x, long y) {
        ObjectLinker linker = linked(2, 1, 0, W.GET, 0, W.GET, 1, word, 0);
        Check.same("word " + word + " of " + x + ", " + y, linker.run(0, 0, x, y, 3), 0);
        Check.same("steps", linker.told(1), 3);
        Check.same("functions", linker.told(2), 1);
        return linker.told(0);
    }

    private static void arithmetic() {
        Check.same("ADD", reckon(W.ADD, Long.MAX_VALUE, 1), LEAST);
        Check.same("SUB", reckon(W.SUB, 5, 7), -2);
        Check.same("SUB wraps", reckon(W.SUB, LEAST, 1), Long.MAX_VALUE);
        Check.same("MUL", reckon(W.MUL, -3, 7), -21);
        Check.same("MUL wraps", reckon(W.MUL, 1L << 62, 4), 0);
        Check.same("AND", reckon(W.AND, 12, 10), 8);
        Check.same("OR", reckon(W.OR, 12, 10), 14);
        Check.same("XOR", reckon(W.XOR, 12, -1), -13);
        Check.same("SHL", reckon(W.SHL, 3, 62), LEAST | 1L << 62);
        Check.same("SHL by 64", reckon(W.SHL, 3, 64), 3);
        Check.same("SHL by -1", reckon(W.SHL, 1, -1), LEAST);
        Check.same("SHRS", reckon(W.SHRS, -8, 1), -4);
        Check.same("SHRS by 127", reckon(W.SHRS, LEAST, 127), -1);
        Check.same("SHRU", reckon(W.SHRU, -1, 60), 15);
        Check.same("SHRU by -64", reckon(W.SHRU, -1, -64), -1);
        Check.same("EQ", reckon(W.EQ, 1L << 40, 1L << 40), 1);
        Check.same("EQ not", reckon(W.EQ, 1L << 40, 0), 0);
        Check.same("LTS", reckon(W.LTS, -1, 0), 1);
        Check.same("LTS not", reckon(W.LTS, 0, -1), 0);
        Check.same("LTS of the same", reckon(W.LTS, 4, 4), 0);
        Check.same("LTU", reckon(W.LTU, 0, -1), 1);
        Check.same("LTU not", reckon(W.LTU, -1, 0), 0);
        Check.same("LTU of the same", reckon(W.LTU, -1, -1), 0);
    }

    private static void division() {
        Check.same("DIV", reckon(W.DIV, 7, 2), 3);
        Check.same("DIV to 0", reckon(W.DIV, -7, 2), -3);
        Check.same("DIV by -2", reckon(W.DIV, 7, -2), -3);
        Check.same("DIV by -1", reckon(W.DIV, Long.MAX_VALUE, -1), -Long.MAX_VALUE);
        Check.same("REM", reckon(W.REM, 7, 2), 1);
        Check.same("REM below 0", reckon(W.REM, -7, 2), -1);
        Check.same("REM by -2", reckon(W.REM, 7, -2), 1);
        Check.same("REM of the least by -1", reckon(W.REM, LEAST, -1), 0);
        due("DIV by 0", linked(2, 1, 0, W.GET, 0, W.GET, 1, W.DIV, 0), 1, 0, 2, 0, 3);
        due("REM by 0", linked(2, 1, 0, W.GET, 0, W.GET, 1, W.REM, 0), 1, 0, 2, 0, 3);
        due("DIV of the least by -1", linked(2, 1, 0, W.GET, 0, W.GET, 1, W.DIV, 0), LEAST, -1, 2, 0, 3);
    }

    private static void stackWords() {
        ObjectLinker x = linked(1, 1, 0, W.CONST, 10, W.CONST, 20, W.GET, 0, W.SELECT, 0);
        due("SELECT of 0", x, 0, 0, 0, 20, 4);
        due("SELECT of 1", x, 1, 0, 0, 10, 4);
        due("SELECT of a high bit", x, 1L << 32, 0, 0, 10, 4);
        due("SELECT of -1", x, -1, 0, 0, 10, 4);
        due("CONST below 0", linked(0, 1, 0, W.CONST, -5), 0, 0, 0, -5, 1);
        due("CONST of the least", linked(0, 1, 0, W.CONST, Integer.MIN_VALUE), 0, 0, 0, Integer.MIN_VALUE, 1);
        due("DROP", linked(0, 1, 0, W.CONST, 1, W.CONST, 2, W.DROP, 0), 0, 0, 0, 1, 3);
        due("nothing", linked(0, 0, 0), 5, 6, 0, 0, 0);
    }

    private static void parametersAndLocals() {
        for (int i = 0; i < 8; i++) {
            due("GET " + i, linked(4, 1, 4, W.GET, i), 7, 9, 0, i == 0 ? 7 : i == 1 ? 9 : 0, 1);
        }
        due("one parameter", linked(1, 1, 1, W.GET, 1), 7, 9, 0, 0, 1);
        ObjectLinker x = linked(2, 1, 2, W.GET, 0, W.SET, 3, W.GET, 1, W.SET, 0, W.GET, 0, W.GET, 3, W.SUB, 0,
                W.GET, 2, W.OR, 0);
        due("SET", x, 5, 30, 0, 25, 9);
        due("locals are 0 again", x, 0, 0, 0, 0, 9);
    }

    private static void memoryWords() {
        ObjectLinker x = linked(2, 1, 0, W.GET, 0, W.GET, 1, W.STORE, 3, W.GET, 0, W.LOAD, 2);
        due("STORE and LOAD", x, 100, 0x8877665544332211L, 0, 0x7766554433221100L, 5);
        Check.same("before it", x.memory(102), 0);
        for (int i = 0; i < 8; i++) {
            Check.same("byte " + i, x.memory(103 + i), 0x11 * (i + 1));
        }
        Check.same("behind it", x.memory(111), 0);
        ObjectLinker y = linked(2, 1, 0, W.GET, 0, W.GET, 1, W.STORE1, 1000, W.GET, 0, W.LOAD1, 1000);
        due("STORE1 and LOAD1", y, 23, -2, 0, 254, 5);
        Check.same("the last byte", y.memory(1023), 254);
        Check.same("one before it", y.memory(1022), 0);
        due("STORE1 takes the lowest byte", y, 0, 0x1234, 0, 0x34, 5);
        Check.same("one byte alone", y.memory(1001), 0);
        Check.same("the run before is not seen", y.memory(1023), 0);
    }

    private static void addresses() {
        int[] words = {W.LOAD, W.LOAD1, W.STORE, W.STORE1};
        int[] widths = {8, 1, 8, 1};
        for (int i = 0; i < words.length; i++) {
            for (int offset : new int[] {0, 1, 17, 1000}) {
                boolean stores = i >= 2;
                ObjectLinker x = stores ? linked(1, 0, 0, W.GET, 0, W.CONST, -1, words[i], offset)
                        : linked(1, 0, 0, W.GET, 0, words[i], offset, W.DROP, 0);
                int most = 1024 - widths[i] - offset;
                int until = stores ? 3 : 2;
                due("0", x, 0, 0, 0, 0, 3);
                due("the last one", x, most, 0, 0, 0, 3);
                Check.same("it was stored", x.memory(1023), stores ? 255 : 0);
                due("one too far", x, most + 1, 0, 3, 0, until);
                Check.same("nothing was stored", x.memory(1023), 0);
                due("-1", x, -1, 0, 3, 0, until);
                due("-offset", x, -offset - 1, 0, 3, 0, until);
                due("the least", x, LEAST, 0, 3, 0, until);
                due("the greatest", x, Long.MAX_VALUE, 0, 3, 0, until);
                due("2 to the power of 32", x, 1L << 32, 0, 3, 0, until);
            }
        }
    }

    private static void blocks() {
        due("a block", linked(0, 1, 0, W.CONST, 4, W.BLOCK, 1, W.CONST, 5, W.END, 0, W.SUB, 0), 0, 0, 0, -1, 5);
        due("a loop that ends", linked(0, 1, 0, W.LOOP, 1, W.CONST, 5, W.END, 0), 0, 0, 0, 5, 3);
    }

    private static void ifs() {
        ObjectLinker x = linked(1, 1, 0, W.GET, 0, W.IF, 1, W.CONST, 10, W.ELSE, 0, W.CONST, 20, W.END, 0);
        due("IF", x, 1, 0, 0, 10, 5);
        due("IF with a high bit", x, 1L << 32, 0, 0, 10, 5);
        due("ELSE", x, 0, 0, 0, 20, 4);
        ObjectLinker y = linked(1, 1, 1, W.GET, 0, W.IF, 0, W.CONST, 3, W.SET, 1, W.END, 0, W.GET, 1);
        due("IF without ELSE", y, 5, 0, 0, 3, 6);
        due("behind END", y, 0, 0, 0, 0, 3);
        ObjectLinker z = linked(1, 1, 0, W.GET, 0, W.IF, 1, W.BLOCK, 0, W.GET, 0, W.IF, 0, W.ELSE, 0, W.END, 0,
                W.END, 0, W.CONST, 1, W.ELSE, 0, W.GET, 0, W.IF, 0, W.ELSE, 0, W.END, 0, W.CONST, 2, W.END, 0);
        due("IF in IF", z, 1, 0, 0, 1, 11);
        due("IF in ELSE", z, 0, 0, 0, 2, 7);
    }

    private static void branches() {
        due("BR drops what is below", linked(0, 1, 0, W.CONST, 1, W.BLOCK, 1, W.CONST, 2, W.CONST, 3, W.CONST, 4,
                W.BR, 0, W.END, 0, W.SUB, 0), 0, 0, 0, -3, 7);
        due("BR over two blocks", linked(0, 1, 0, W.BLOCK, 1, W.CONST, 7, W.BLOCK, 0, W.CONST, 8, W.CONST, 9,
                W.BR, 1, W.END, 0, W.END, 0), 0, 0, 0, 9, 6);
        due("BR to the function's end", linked(0, 1, 0, W.CONST, 1, W.BLOCK, 0, W.CONST, 2, W.CONST, 3, W.BR, 1,
                W.END, 0), 0, 0, 0, 3, 5);
        due("RETURN", linked(0, 1, 0, W.CONST, 1, W.LOOP, 0, W.CONST, 2, W.CONST, 3, W.RETURN, 0, W.END, 0),
                0, 0, 0, 3, 5);
        due("RETURN of nothing", linked(0, 0, 0, W.CONST, 1, W.RETURN, 0), 0, 0, 0, 0, 2);
        ObjectLinker x = linked(1, 1, 0, W.BLOCK, 1, W.CONST, 6, W.CONST, 5, W.GET, 0, W.BRIF, 0, W.ADD, 0, W.END, 0);
        due("BRIF that goes", x, 1, 0, 0, 5, 5);
        due("BRIF that goes with a high bit", x, LEAST, 0, 0, 5, 5);
        due("BRIF that stays", x, 0, 0, 0, 11, 7);
        ObjectLinker y = linked(1, 1, 0, W.CONST, 2, W.GET, 0, W.BRIF, 0, W.DROP, 0, W.CONST, 3);
        due("BRIF to the function's end", y, 9, 0, 0, 2, 3);
        due("BRIF before the function's end", y, 0, 0, 0, 3, 5);
        due("BR out of IF", linked(0, 1, 0, W.CONST, 1, W.IF, 1, W.CONST, 4, W.CONST, 5, W.BR, 0, W.ELSE, 0,
                W.CONST, 6, W.END, 0), 0, 0, 0, 5, 5);
        due("BR out of ELSE", linked(0, 1, 0, W.CONST, 0, W.IF, 1, W.CONST, 4, W.ELSE, 0, W.CONST, 5, W.CONST, 6,
                W.BR, 0, W.END, 0), 0, 0, 0, 6, 5);
    }

    private static void loops() {
        ObjectLinker x = linked(1, 1, 1, W.LOOP, 0, W.GET, 1, W.GET, 0, W.ADD, 0, W.SET, 1, W.GET, 0, W.CONST, 1,
                W.SUB, 0, W.SET, 0, W.GET, 0, W.BRIF, 0, W.END, 0, W.GET, 1);
        due("once", x, 1, 0, 0, 1, 13);
        due("ten times", x, 10, 0, 0, 55, 103);
        due("for ever", x, -1, 0, 1, 0, 2000);
        ObjectLinker y = linked(1, 1, 0, W.LOOP, 1, W.CONST, 3, W.CONST, 4, W.GET, 0, W.CONST, 1, W.SUB, 0, W.SET, 0,
                W.GET, 0, W.BRIF, 0, W.ADD, 0, W.END, 0);
        due("a loop drops what came in it", y, 100, 0, 0, 7, 1 + 100 * 8 + 2);
        ObjectLinker z = linked(1, 1, 0, W.CONST, 50, W.LOOP, 1, W.CONST, 3, W.GET, 0, W.CONST, 1, W.SUB, 0, W.SET, 0,
                W.GET, 0, W.BRIF, 0, W.END, 0, W.SUB, 0);
        due("a loop leaves what is below it", z, 5, 0, 0, 47, 2 + 5 * 7 + 2);
    }

    private static void calls() {
        ObjectLinker x = W.objects(2);
        x.symbol(0, 1, W.FUNCTION, W.STRONG, W.NONE, 5);
        W.function(x, 0, 2, 1, 0, W.CONST, 1000, W.GET, 0, W.GET, 1, W.CALL, 0, W.ADD, 0);
        W.function(x, 1, 2, 1, 2, W.CONST, 77, W.SET, 2, W.CONST, 5, W.GET, 0, W.GET, 1, W.SUB, 0, W.RETURN, 0);
        x.symbol(1, 1, W.FUNCTION, W.STRONG, 0, 0);
        W.linked("a call", x);
        due("a call", x, 50, 8, 0, 1042, 12);
        Check.same("functions", x.told(2), 2);
        Check.same("the other object's function", x.run(1, 0, 1, 2, 99), 0);
        Check.same("its value", x.told(0), -1);
        Check.same("one function", x.told(2), 1);
        ObjectLinker y = W.objects(1);
        W.function(y, 0, 1, 0, 0, W.GET, 0, W.IF, 0, W.GET, 0, W.CONST, 1, W.SUB, 0, W.CALL, 0, W.CALL, 1, W.END, 0);
        y.symbol(0, 1, W.FUNCTION, W.LOCAL, 0, 0);
        W.function(y, 0, 0, 0, 0);
        y.symbol(0, 2, W.FUNCTION, W.LOCAL, 1, 0);
        W.linked("a call of itself", y);
        due("a call of itself", y, 3, 0, 0, 0, 3 * 8 + 2);
        Check.same("functions one in the other", y.told(2), 4);
        jumpsInCalls();
        ObjectLinker z = W.objects(1);
        W.function(z, 0, 0, 0, 0, W.CALL, 0);
        z.function(0, 0, 0, 0);
        z.symbol(0, 1, W.FUNCTION, W.LOCAL, 1, 0);
        W.linked("a call of an empty function", z);
        Check.same("with fuel for the call alone", z.run(0, 0, 0, 0, 1), 0);
        Check.same("two functions", z.told(2), 2);
    }

    /** A jump drops what came in its own function's block, and nothing of the functions around it. */
    private static void jumpsInCalls() {
        ObjectLinker x = W.objects(1);
        W.function(x, 0, 2, 1, 1, W.CONST, 300, W.GET, 0, W.GET, 1, W.CALL, 0, W.SUB, 0);
        W.function(x, 0, 2, 1, 1, W.CONST, 40, W.BLOCK, 1, W.CONST, 1, W.CONST, 2, W.CONST, 5, W.BR, 0, W.END, 0,
                W.SUB, 0, W.GET, 0, W.ADD, 0, W.GET, 1, W.SUB, 0);
        x.symbol(0, 1, W.FUNCTION, W.LOCAL, 1, 0);
        W.linked("jumps in calls", x);
        due("jumps in calls", x, 8, 3, 0, 300 - (40 - 5 + 8 - 3), 5 + 11);
    }

    private static void depth() {
        ObjectLinker x = W.objects(1);
        W.function(x, 0, 1, 1, 4, W.GET, 0, W.IF, 1, W.GET, 0, W.CONST, 1, W.SUB, 0, W.CALL, 0, W.ELSE, 0,
                W.CONST, 6, W.END, 0);
        x.symbol(0, 1, W.FUNCTION, W.STRONG, 0, 0);
        W.linked("deep", x);
        due("40 functions", x, 39, 0, 0, 6, 39 * 8 + 4);
        Check.same("40", x.told(2), 40);
        due("41 functions", x, 40, 0, 6, 0, 40 * 6);
        Check.same("40 and no more", x.told(2), 40);
        Check.same("fuel for the last call", x.run(0, 0, 40, 0, 240), 6);
        Check.same("no fuel for the last call", x.run(0, 0, 40, 0, 239), 1);
        Check.same("40 of them", x.told(2), 40);
        deepStack();
    }

    /** As many values on the stack as there can be. */
    private static void deepStack() {
        ObjectLinker x = W.single(4, 1, 4);
        x.symbol(0, 1, W.FUNCTION, W.STRONG, 0, 0);
        for (int i = 0; i < 48; i++) {
            x.code(0, 0, W.GET, 0);
        }
        x.code(0, 0, W.CALL, 0);
        x.code(0, 0, W.RETURN, 0);
        W.linked("deep stack", x);
        due("deep stack", x, 1, 2, 6, 0, 40 * 49);
    }

    private static void indirect() {
        ObjectLinker x = W.objects(1);
        W.function(x, 0, 2, 1, 0, W.GET, 1, W.GET, 0, W.INDIRECT, 3);
        W.function(x, 0, 1, 1, 0, W.GET, 0, W.CONST, 2, W.MUL, 0);
        W.function(x, 0, 1, 0, 0);
        W.function(x, 0, 0, 1, 0, W.SLOT, 0, W.SLOT, 1, W.ADD, 0);
        x.symbol(0, 1, W.FUNCTION, W.LOCAL, 1, 0);
        x.symbol(0, 2, W.FUNCTION, W.LOCAL, 2, 0);
        x.symbol(0, 3, W.FUNCTION, W.LOCAL, 3, 0);
        W.linked("indirect", x);
        due("slot 1", x, 1, 21, 0, 42, 6);
        Check.same("two functions", x.told(2), 2);
        due("slot 0", x, 0, 21, 4, 0, 3);
        due("slot 2 has no results", x, 2, 21, 5, 0, 3);
        due("slot 3", x, 3, 21, 4, 0, 3);
        due("slot -1", x, -1, 21, 4, 0, 3);
        due("slot 1 and a high bit", x, 1L + (1L << 32), 21, 4, 0, 3);
        Check.same("one function", x.told(2), 1);
        Check.same("slots are pushed", x.run(0, 3, 0, 0, 9), 0);
        Check.same("1 and 2", x.told(0), 3);
        indirectAndDepth();
    }

    private static void indirectAndDepth() {
        ObjectLinker x = W.objects(1);
        W.function(x, 0, 2, 0, 1, W.GET, 0, W.IF, 0, W.GET, 0, W.CONST, 1, W.SUB, 0, W.GET, 1, W.CALL, 0, W.ELSE, 0,
                W.GET, 1, W.INDIRECT, 0, W.END, 0, W.SLOT, 1, W.DROP, 0, W.SLOT, 0, W.DROP, 0);
        x.symbol(0, 1, W.FUNCTION, W.STRONG, 0, 0);
        W.function(x, 0, 0, 0, 0);
        x.symbol(0, 2, W.FUNCTION, W.STRONG, 1, 0);
        W.linked("indirect and deep", x);
        Check.same("40 functions", x.run(0, 0, 38, 1, 2000), 0);
        Check.same("41 functions", x.run(0, 0, 39, 1, 2000), 6);
        Check.same("a slot that is not there before it", x.run(0, 0, 39, 3, 2000), 4);
        Check.same("slot 0 before it", x.run(0, 0, 39, 0, 2000), 4);
        Check.same("another signature before it", x.run(0, 0, 39, 2, 2000), 5);
        Check.same("40 all the same", x.told(2), 40);
    }

    private static void missing() {
        ObjectLinker x = W.objects(1);
        x.symbol(0, 1, W.FUNCTION, W.WEAK, W.NONE, 1);
        x.symbol(0, 2, W.FUNCTION, W.LOCAL, W.function(x, 0, 1, 1, 0, W.GET, 0, W.IF, 1, W.GET, 0, W.CONST, 1,
                W.SUB, 0, W.CALL, 1, W.ELSE, 0, W.CALL, 0, W.END, 0), 0);
        W.linked("missing", x);
        due("a function that is not there", x, 0, 0, 7, 0, 3);
        due("at a depth of 40", x, 39, 0, 7, 0, 39 * 6 + 3);
        Check.same("40", x.told(2), 40);
        Check.same("fuel comes first", x.run(0, 0, 0, 0, 2), 1);
    }

    private static void symbolsAndSize() {
        ObjectLinker x = W.objects(1);
        x.segment(0, 9, 0);
        x.symbol(0, 1, W.DATA, W.STRONG, 0, 4);
        x.symbol(0, 2, W.DATA, W.WEAK, W.NONE, 0);
        x.symbol(0, 3, W.FUNCTION, W.WEAK, W.NONE, 0);
        W.function(x, 0, 0, 1, 0, W.ADDRESS, 0, W.ADDRESS, 1, W.SUB, 0);
        W.function(x, 0, 0, 1, 0, W.SLOT, 2);
        W.function(x, 0, 0, 1, 0, W.SIZE, 0);
        W.linked("symbols", x);
        due("ADDRESS", x, 0, 0, 0, 20, 3);
        x.run(0, 2, 0, 0, 9);
        Check.same("SIZE", x.told(0), 1024);
        x.run(0, 1, 0, 0, 9);
        Check.same("SLOT of nothing", x.told(0), 0);
    }

    private static void fuel() {
        ObjectLinker x = linked(0, 1, 0, W.CONST, 0, W.CONST, 7, W.STORE1, 9, W.CONST, 5);
        for (int fuel = 0; fuel < 4; fuel++) {
            Check.same("fuel " + fuel, x.run(0, 0, 0, 0, fuel), 1);
            Check.same("no value", x.told(0), 0);
            Check.same("steps", x.told(1), fuel);
            Check.same("functions", x.told(2), 1);
            Check.same("memory", x.memory(9), fuel < 3 ? 0 : 7);
        }
        Check.same("fuel 4", x.run(0, 0, 0, 0, 4), 0);
        Check.same("the value", x.told(0), 5);
        Check.same("steps", x.told(1), 4);
        ObjectLinker y = linked(0, 0, 0);
        Check.same("no word, no fuel", y.run(0, 0, 0, 0, 0), 0);
        Check.same("no steps", y.told(1), 0);
        Check.same("one function", y.told(2), 1);
        ObjectLinker z = linked(0, 0, 0, W.CONST, 0, W.CONST, 0, W.DIV, 0, W.DROP, 0);
        Check.same("no fuel for the division", z.run(0, 0, 0, 0, 2), 1);
        Check.same("fuel for it", z.run(0, 0, 0, 0, 3), 2);
        ObjectLinker e = linked(0, 0, 0, W.LOOP, 0, W.BR, 0, W.END, 0);
        Check.same("all the fuel", e.run(0, 0, 0, 0, 2000), 1);
        Check.same("all the steps", e.told(1), 2000);
    }

    private static void memoryOfRuns() {
        ObjectLinker x = W.single(2, 0, 0, W.GET, 0, W.GET, 1, W.STORE, 0, W.CONST, 1, W.CONST, 0, W.DIV, 0, W.DROP, 0);
        x.segment(0, 2, 0);
        x.fill(0, 0, 0, 0x0605);
        W.linked("memory", x);
        Check.same("before a run", x.memory(16), 0);
        Check.same("a run that ends early", x.run(0, 0, 17, -1, 99), 2);
        Check.same("a segment's byte", x.memory(16), 5);
        Check.same("what was stored over one", x.memory(17), 255);
        Check.same("the last one", x.memory(24), 255);
        Check.same("behind it", x.memory(25), 0);
        x.run(0, 0, 100, -1, 99);
        Check.same("a segment's byte again", x.memory(17), 6);
        Check.same("stored in the run before", x.memory(24), 0);
        Check.same("stored in this one", x.memory(107), 255);
    }

    private static void latestRunStays() {
        ObjectLinker x = linked(1, 1, 0, W.GET, 0, W.CONST, 9, W.STORE1, 0, W.GET, 0);
        x.run(0, 0, 33, 0, 99);
        Check.argument("a run that throws", () -> x.run(0, 0, 0, 0, 2001));
        stays("behind a run that throws", x);
        x.object();
        stays("behind a change", x);
        Check.state("a run of what is not linked", () -> x.run(0, 0, 0, 0, 1));
        stays("behind another run that throws", x);
        x.segment(0, 64, 0);
        x.fill(0, 0, 17, -1);
        W.linked("again", x);
        stays("behind a link", x);
        x.code(0, 0, W.GET, 0);
        W.faulty("at fault", x, 2, 5);
        stays("behind a fault", x);
    }

    private static void stays(String what, ObjectLinker x) {
        Check.same(what + ": value", x.told(0), 33);
        Check.same(what + ": steps", x.told(1), 4);
        Check.same(what + ": functions", x.told(2), 1);
        Check.same(what + ": memory", x.memory(33), 9);
    }

    private static void wrongInputs() {
        ObjectLinker x = linked(0, 0, 0);
        Check.argument("object 1", () -> x.run(1, 0, 0, 0, 0));
        Check.argument("object -1", () -> x.run(-1, 0, 0, 0, 0));
        Check.argument("function 1", () -> x.run(0, 1, 0, 0, 0));
        Check.argument("function -1", () -> x.run(0, -1, 0, 0, 0));
        Check.argument("fuel -1", () -> x.run(0, 0, 0, 0, -1));
        Check.argument("fuel 2001", () -> x.run(0, 0, 0, 0, 2001));
        Check.argument("told -1", () -> x.told(-1));
        Check.argument("told 3", () -> x.told(3));
        Check.argument("memory -1", () -> x.memory(-1));
        Check.argument("memory 1024", () -> x.memory(1024));
        Check.same("no run yet", x.told(2), 0);
        Check.same("fuel 2000", x.run(0, 0, 0, 0, 2000), 0);
        x.object();
        Check.argument("fuel 2001 when nothing is linked", () -> x.run(0, 0, 0, 0, 2001));
        Check.state("nothing is linked", () -> x.run(0, 0, 0, 0, 2000));
    }
}
