/** The boundary cases of promises 14 and 15, a method for each sentence that names one. */
public final class ToldEdgesTest {
    public static void main(String[] args) {
        toldHasItsBounds();
        toldWithoutARun();
        theValueOrNone();
        stepsAreFuelWhenItEndedWith1();
        fortyWhenItEndedWith6();
        theGreatestNumberOfFunctions();
        theLatestRunStaysTold();
        theLatestRunReplacesTheOneBefore();
        memoryHasItsBounds();
        memoryWithoutARun();
        theFirstByteAndTheLast();
        bytesOf0To255();
        memoryBehindEachEnd();
        Check.end();
    }

    private static ObjectLinker linked(int parameters, int results, int locals, int... pairs) {
        ObjectLinker x = W.single(parameters, results, locals, pairs);
        W.linked("to run", x);
        return x;
    }

    private static void told(String what, ObjectLinker x, long value, int steps, int deepest) {
        Check.same(what + ": the value", x.told(0), value);
        Check.same(what + ": the steps", x.told(1), steps);
        Check.same(what + ": the functions", x.told(2), deepest);
    }

    // Promise 14

    /** "What = 0 .. 1 .. 2": "Illegal argument", whether something was run or not. */
    private static void toldHasItsBounds() {
        Check.bounds("what of a new object", 0, 2, n -> new ObjectLinker().told(n));
        ObjectLinker x = linked(0, 0, 0);
        Check.bounds("what before a run", 0, 2, x::told);
        x.run(0, 0, 0, 0, 0);
        Check.bounds("what behind a run", 0, 2, x::told);
    }

    /** "0 without a run." */
    private static void toldWithoutARun() {
        told("a new object", new ObjectLinker(), 0, 0, 0);
        ObjectLinker x = linked(1, 1, 0, W.GET, 0);
        told("linked, but not run", x, 0, 0, 0);
        Check.argument("a run that is refused", () -> x.run(0, 0, 9, 9, 2001));
        told("behind it", x, 0, 0, 0);
        x.object();
        Check.state("a run of what is not linked", () -> x.run(0, 0, 9, 9, 2000));
        told("behind that", x, 0, 0, 0);
    }

    /** "The value that was returned (0 without one)": no value of the run before, nor one that was on the stack. */
    private static void theValueOrNone() {
        ObjectLinker x = W.objects(1);
        W.function(x, 0, 1, 1, 0, W.GET, 0);
        W.function(x, 0, 1, 0, 0, W.GET, 0, W.RETURN, 0);
        W.function(x, 0, 1, 1, 0, W.GET, 0, W.GET, 0, W.CONST, 0, W.DIV, 0, W.DROP, 0);
        W.function(x, 0, 1, 1, 0, W.GET, 0, W.LOOP, 0, W.BR, 0, W.END, 0);
        W.linked("functions with and without results", x);
        int[] ends = {0, 0, 2, 1};
        long[] values = {Long.MIN_VALUE, 0, 0, 0};
        int[] steps = {1, 2, 4, 2000};
        for (int function = 0; function < 4; function++) {
            x.run(0, 0, 12345, 0, 9);
            told("a value", x, 12345, 1, 1);
            Check.same("function " + function, x.run(0, function, Long.MIN_VALUE, 0, 2000), ends[function]);
            told("function " + function, x, values[function], steps[function], 1);
        }
    }

    /** "1 how many steps it made (fuel, when it ended with 1)." */
    private static void stepsAreFuelWhenItEndedWith1() {
        ObjectLinker x = linked(0, 0, 0, W.LOOP, 0, W.BLOCK, 0, W.BR, 1, W.END, 0, W.END, 0);
        for (int fuel : new int[] {0, 1, 2, 3, 999, 1999, 2000}) {
            Check.same("fuel " + fuel, x.run(0, 0, 0, 0, fuel), 1);
            told("fuel " + fuel, x, 0, fuel, 1);
        }
        ObjectLinker y = linked(0, 0, 0);
        Check.same("fuel 2000 that is not used", y.run(0, 0, 0, 0, 2000), 0);
        told("no step", y, 0, 0, 1);
    }

    /** "(40, when it ended with 6)." */
    private static void fortyWhenItEndedWith6() {
        ObjectLinker x = W.single(0, 0, 0, W.CALL, 0);
        x.symbol(0, 0, W.FUNCTION, W.STRONG, 0, 0);
        W.linked("a call of itself", x);
        for (int fuel = 38; fuel <= 41; fuel++) {
            Check.same("fuel " + fuel, x.run(0, 0, 0, 0, fuel), fuel < 40 ? 1 : 6);
            told("fuel " + fuel, x, 0, Math.min(fuel, 40), Math.min(fuel + 1, 40));
        }
    }

    /** "2 the greatest number of functions one in the other": also if the run ended in fewer. */
    private static void theGreatestNumberOfFunctions() {
        ObjectLinker x = W.objects(1);
        W.function(x, 0, 0, 0, 0, W.CALL, 1, W.CALL, 2, W.SIZE, 0, W.CONST, 0, W.DIV, 0, W.DROP, 0);
        W.function(x, 0, 0, 0, 0, W.CALL, 2);
        W.function(x, 0, 0, 0, 0);
        for (int i = 0; i < 3; i++) {
            x.symbol(0, i, W.FUNCTION, W.LOCAL, i, 0);
        }
        W.linked("calls", x);
        int[] deepest = {1, 2, 3, 3, 3, 3};
        for (int fuel = 0; fuel < 6; fuel++) {
            Check.same("fuel " + fuel, x.run(0, 0, 0, 0, fuel), 1);
            told("fuel " + fuel, x, 0, fuel, deepest[fuel]);
        }
        Check.same("a division", x.run(0, 0, 0, 0, 6), 2);
        told("a division", x, 0, 6, 3);
        Check.same("function 1", x.run(0, 1, 0, 0, 6), 0);
        told("function 1", x, 0, 1, 2);
    }

    /** "(The latest run stays told, whatever is changed or linked since.)" Its memory does, too. */
    private static void theLatestRunStaysTold() {
        ObjectLinker x = W.single(1, 1, 0, W.CONST, 0, W.GET, 0, W.STORE, 64, W.GET, 0);
        x.segment(0, 8, 0);
        x.fill(0, 0, 0, 7);
        W.linked("to run", x);
        Check.same("the run", x.run(0, 0, -2, 0, 99), 0);
        stays("at once", x);
        x.fill(0, 0, 0, 8);
        stays("behind fill()", x);
        x.object();
        stays("behind object()", x);
        x.function(0, 0, 0, 0);
        stays("behind function()", x);
        x.segment(0, 64, 0);
        stays("behind segment()", x);
        x.symbol(0, 0, W.DATA, W.STRONG, 0, 0);
        stays("behind symbol()", x);
        W.linked("anew", x);
        stays("behind link()", x);
        x.code(0, 0, W.SIZE, 0);
        stays("behind code()", x);
        W.faulty("a fault", x, 2, 5);
        stays("behind a fault", x);
        Check.state("a run that is refused", () -> x.run(0, 0, 0, 0, 99));
        stays("behind it", x);
    }

    private static void stays(String what, ObjectLinker x) {
        told(what, x, -2, 4, 1);
        Check.same(what + ": the segment's byte", x.memory(16), 7);
        Check.same(what + ": the byte that was stored", x.memory(64), 254);
        Check.same(what + ": another byte that was stored", x.memory(71), 255);
    }

    /** "Of the latest run": nothing of those before it. */
    private static void theLatestRunReplacesTheOneBefore() {
        ObjectLinker x = W.single(1, 1, 0, W.GET, 0, W.GET, 0, W.STORE1, 0, W.GET, 0);
        W.function(x, 0, 0, 0, 0, W.CALL, 0, W.CALL, 0);
        W.function(x, 0, 0, 0, 0);
        x.symbol(0, 0, W.FUNCTION, W.LOCAL, 2, 0);
        W.linked("three functions", x);
        x.run(0, 0, 200, 0, 99);
        told("the first", x, 200, 4, 1);
        Check.same("its byte", x.memory(200), 200);
        x.run(0, 1, 0, 0, 99);
        told("the second", x, 0, 2, 2);
        Check.same("none of the first one's bytes", x.memory(200), 0);
        x.run(0, 0, 201, 0, 0);
        told("the third", x, 0, 0, 1);
        x.run(0, 2, 0, 0, 0);
        told("the fourth", x, 0, 0, 1);
    }

    // Promise 15

    /** "Illegal argument: it is not 0 .. 1023", whether something was run or not. */
    private static void memoryHasItsBounds() {
        Check.bounds("address of a new object", 0, 1023, n -> new ObjectLinker().memory(n));
        ObjectLinker x = linked(0, 0, 0);
        x.run(0, 0, 0, 0, 0);
        for (int address : new int[] {0, 1, 1022, 1023}) {
            Check.same("address " + address, x.memory(address), 0);
        }
        for (int address : new int[] {Integer.MIN_VALUE, -1024, -1, 1024, 1025, Integer.MAX_VALUE}) {
            Check.argument("address " + address, () -> x.memory(address));
        }
    }

    /** "(0 without one)": also if there are segments, and they are linked. */
    private static void memoryWithoutARun() {
        ObjectLinker x = W.single(0, 0, 0);
        for (int i = 0; i < 4; i++) {
            x.segment(0, 64, 0);
            for (int k = 0; k < 64; k += 8) {
                x.fill(0, i, k, -1);
            }
        }
        Check.same("before link()", x.memory(16), 0);
        W.linked("segments", x);
        for (int address = 0; address < 300; address++) {
            Check.same("before a run", x.memory(address), 0);
        }
        x.run(0, 0, 0, 0, 0);
        for (int address : new int[] {15, 16, 271, 272}) {
            Check.same("behind a run", x.memory(address), address < 16 || address > 271 ? 0 : 255);
        }
    }

    /** "A byte of the memory": 0 and 1023 are its first and last. */
    private static void theFirstByteAndTheLast() {
        ObjectLinker x = linked(2, 0, 0, W.GET, 0, W.GET, 1, W.STORE1, 0);
        for (int address : new int[] {0, 1, 15, 16, 1022, 1023}) {
            x.run(0, 0, address, 99, 9);
            Check.same("address " + address, x.memory(address), 99);
            Check.same("the one before it", address == 0 ? 0 : x.memory(address - 1), 0);
            Check.same("the one behind it", address == 1023 ? 0 : x.memory(address + 1), 0);
        }
    }

    /** A byte is 0 .. 255, whatever was stored. */
    private static void bytesOf0To255() {
        ObjectLinker x = linked(2, 0, 0, W.GET, 0, W.GET, 1, W.STORE1, 0);
        for (int value = -130; value < 130; value += 10) {
            x.run(0, 0, 50, value, 9);
            Check.same("byte of " + value, x.memory(50), value < 0 ? value + 256 : value);
        }
        for (int value : new int[] {-256, -129, -128, -127, -1, 0, 127, 128, 255, 256}) {
            x.run(0, 0, 50, value, 9);
            Check.same("byte of " + value, x.memory(50), Math.floorMod(value, 256));
        }
    }

    /** "The memory behind the latest run": however it ended. */
    private static void memoryBehindEachEnd() {
        int[][] last = {{}, {W.LOOP, 0, W.BR, 0, W.END, 0}, {W.SIZE, 0, W.CONST, 0, W.DIV, 0, W.DROP, 0},
            {W.SIZE, 0, W.SIZE, 0, W.STORE, 0}, {W.CONST, 0, W.INDIRECT, 0}, {W.SLOT, 0, W.INDIRECT, 2}, {W.CALL, 0},
            {W.CALL, 1}};
        for (int end = 0; end < last.length; end++) {
            ObjectLinker x = W.single(0, 0, 0, W.CONST, 7, W.CONST, 7, W.STORE1, 0);
            W.append(x, 0, 0, W.CONST, 9, W.CONST, 9, W.STORE1, 0);
            if (end == 5) {
                x.code(0, 0, W.SIZE, 0);
            }
            W.append(x, 0, 0, last[end]);
            x.segment(0, 1, 0);
            x.fill(0, 0, 0, 200);
            x.symbol(0, 0, W.FUNCTION, W.LOCAL, 0, 0);
            x.symbol(0, 1, W.FUNCTION, W.WEAK, W.NONE, 0);
            W.linked("end " + end, x);
            Check.same("the end", x.run(0, 0, 0, 0, 2000), end);
            Check.same("what was stored first", x.memory(7), 7);
            Check.same("what was stored last", x.memory(9), 9);
            Check.same("the segment", x.memory(16), 200);
            Check.same("nothing else", x.memory(1023), 0);
        }
    }
}
