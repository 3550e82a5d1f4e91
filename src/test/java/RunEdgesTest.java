import java.math.BigInteger;

/** The boundary cases of promise 13, a method for each sentence that names one. */
public final class RunEdgesTest {
    private static final int RETURNED = 0;
    private static final int FUEL = 1;
    private static final int DIVISION = 2;
    private static final int ADDRESS = 3;
    private static final int NO_SLOT = 4;
    private static final int OTHER = 5;
    private static final int DEPTH = 6;
    private static final int NOT_THERE = 7;

    private static final long[] EDGES = {0, 1, -1, 2, -2, 7, 31, 32, 62, 63, 64, 65, 127, 128, -63, -64, -65, 255,
        Integer.MAX_VALUE, Integer.MIN_VALUE, 1L << 32, (1L << 32) - 1, (1L << 32) + 1, -(1L << 32), 1L << 62,
        Long.MAX_VALUE, Long.MAX_VALUE - 1, Long.MIN_VALUE, Long.MIN_VALUE + 1};

    public static void main(String[] args) {
        runHasItsBounds();
        fuelHasItsBounds();
        nothingIsLinked();
        theFirstTwoParameters();
        localsAre0AtFirst();
        memoryHasTheSegmentsAtFirst();
        nothingStaysOfAFaultyLink();
        nothingStaysOfTheRunBefore();
        aStepIsAWord();
        anyWayToReturn();
        moreThanFuelSteps();
        fuelBeforeEachEnd();
        arithmeticWraps();
        shiftsAreModulo64();
        comparisons();
        divisionsTo0();
        divisionsThatEndIt();
        selectAndConst();
        addressesInMemory();
        addressesDoNotWrap();
        bytesThatAreLoadedAndStored();
        slotsThatAreNotThere();
        otherParametersOrResults();
        fortyFunctions();
        fortyFunctionsBySlots();
        fortyFunctionsWithManyValues();
        functionsOneBehindTheOther();
        whichEndBeforeWhich();
        functionsThatAreNotThere();
        emptyBlocksAndFunctions();
        branchesDropValues();
        Check.end();
    }

    private static ObjectLinker linked(int parameters, int results, int locals, int... pairs) {
        ObjectLinker x = W.single(parameters, results, locals, pairs);
        W.linked("to run", x);
        return x;
    }

    /** The function 0 of object 0 ends so, with this value behind so many steps, in so many functions. */
    private static void due(String what, ObjectLinker x, long a, long b, int end, long value, int steps, int deepest) {
        Check.same(what + ": the end", x.run(0, 0, a, b, 2000), end);
        Check.same(what + ": the value", x.told(0), value);
        Check.same(what + ": the steps", x.told(1), steps);
        Check.same(what + ": the functions", x.told(2), deepest);
        if (steps > 0) {
            Check.same(what + ": with just enough fuel", x.run(0, 0, a, b, steps), end);
            Check.same(what + ": with too little fuel", x.run(0, 0, a, b, steps - 1), FUEL);
            Check.same(what + ": its steps are the fuel", x.told(1), steps - 1);
            Check.same(what + ": it returned nothing", x.told(0), 0);
        }
    }

    // Promise 13: what is refused

    /** "There is no such thing": the object's number and the function's. */
    private static void runHasItsBounds() {
        ObjectLinker x = W.objects(6);
        for (int i = 0; i < 8; i++) {
            x.function(5, 0, 0, 0);
        }
        x.function(0, 0, 0, 0);
        W.linked("nine functions", x);
        Check.bounds("function of eight", 0, 7, n -> x.run(5, n, 0, 0, 0));
        Check.bounds("function of one", 0, 0, n -> x.run(0, n, 0, 0, 0));
        Check.argument("function of none", () -> x.run(1, 0, 0, 0, 0));
        ObjectLinker y = linked(0, 0, 0);
        Check.bounds("object of one", 0, 0, n -> y.run(n, 0, 0, 0, 0));
    }

    /** "Illegal argument: also if fuel is not 0 .. 2000." */
    private static void fuelHasItsBounds() {
        ObjectLinker x = linked(0, 0, 0, W.LOOP, 0, W.BR, 0, W.END, 0);
        for (int fuel : new int[] {0, 1, 2, 1999, 2000}) {
            Check.same("fuel " + fuel, x.run(0, 0, 0, 0, fuel), FUEL);
            Check.same("steps of it", x.told(1), fuel);
            Check.same("functions of it", x.told(2), 1);
        }
        for (int fuel : new int[] {Integer.MIN_VALUE, -2000, -1, 2001, 4000, Integer.MAX_VALUE}) {
            Check.argument("fuel " + fuel, () -> x.run(0, 0, 0, 0, fuel));
        }
        Check.same("the latest run is the one of 2000", x.told(1), 2000);
    }

    /** "Illegal state: nothing is linked." */
    private static void nothingIsLinked() {
        ObjectLinker x = W.single(0, 0, 0);
        Check.state("before link()", () -> x.run(0, 0, 0, 0, 1));
        W.linked("one", x);
        Check.same("behind link()", x.run(0, 0, 0, 0, 1), RETURNED);
        x.code(0, 0, W.SIZE, 0);
        Check.state("behind a change", () -> x.run(0, 0, 0, 0, 1));
        W.faulty("a fault", x, 2, 1);
        Check.state("behind a fault", () -> x.run(0, 0, 0, 0, 1));
    }

    // Promise 13: how a run begins

    /** "With the first two parameters (others are 0)." */
    private static void theFirstTwoParameters() {
        for (int parameters = 0; parameters <= 4; parameters++) {
            for (int asked = 0; asked < parameters; asked++) {
                long value = asked == 0 ? Long.MIN_VALUE : asked == 1 ? Long.MAX_VALUE : 0;
                due("parameter " + asked + " of " + parameters, linked(parameters, 1, 0, W.GET, asked),
                        Long.MIN_VALUE, Long.MAX_VALUE, RETURNED, value, 1, 1);
            }
        }
        due("no parameters", linked(0, 1, 0, W.SIZE, 0), 5, 6, RETURNED, 1024, 1, 1);
    }

    /** "LOCALS (.. 0 at first, behind the parameters)": in each run and each call. */
    private static void localsAre0AtFirst() {
        for (int parameters = 0; parameters <= 4; parameters++) {
            for (int locals = 1; locals <= 4; locals++) {
                int last = parameters + locals - 1;
                ObjectLinker x = linked(parameters, 1, locals, W.GET, last, W.CONST, 5, W.SET, last,
                        W.GET, parameters, W.ADD, 0);
                for (int again = 0; again < 2; again++) {
                    due("a local", x, 77, 88, RETURNED, locals == 1 ? 5 : 0, 5, 1);
                }
            }
        }
        ObjectLinker x = W.objects(1);
        W.function(x, 0, 0, 1, 0, W.CALL, 0, W.CALL, 0, W.ADD, 0);
        W.function(x, 0, 0, 1, 1, W.GET, 0, W.CONST, 9, W.SET, 0);
        x.symbol(0, 0, W.FUNCTION, W.LOCAL, 1, 0);
        W.linked("two calls", x);
        due("locals of calls", x, 0, 0, RETURNED, 0, 9, 2);
    }

    /** "The memory has the segments' bytes at first, else 0": nothing of a run before is there. */
    private static void memoryHasTheSegmentsAtFirst() {
        ObjectLinker x = W.single(1, 1, 0, W.GET, 0, W.LOAD, 0, W.GET, 0, W.CONST, -1, W.STORE, 0);
        x.segment(0, 8, 0);
        x.fill(0, 0, 0, 0x123456789abcdefL);
        W.linked("a segment", x);
        for (int again = 0; again < 2; again++) {
            due("the segment", x, 16, 0, RETURNED, 0x123456789abcdefL, 5, 1);
            due("half of it", x, 20, 0, RETURNED, 0x1234567L, 5, 1);
            due("before it", x, 8, 0, RETURNED, 0, 5, 1);
            due("behind it", x, 24, 0, RETURNED, 0, 5, 1);
            due("the last bytes", x, 1016, 0, RETURNED, 0, 5, 1);
        }
        Check.same("the segment stays what it was", x.run(0, 0, 16, 0, 9), RETURNED);
        Check.same("though a run stores into it", x.memory(16), 255);
    }

    /** What was looked through in vain does not change what is linked later. */
    private static void nothingStaysOfAFaultyLink() {
        ObjectLinker x = W.single(0, 1, 0, W.CONST, 100, W.CONST, 30, W.BLOCK, 1, W.CONST, 5);
        W.faulty("a block that is not closed", x, 2, 4);
        W.append(x, 0, 0, W.CONST, 2, W.BR, 0, W.END, 0, W.SUB, 0, W.SUB, 0);
        W.linked("it is closed", x);
        due("behind a faulty link", x, 0, 0, RETURNED, 72, 8, 1);
    }

    /** Neither its values nor its functions, however deep it ended. */
    private static void nothingStaysOfTheRunBefore() {
        ObjectLinker x = W.single(4, 1, 4);
        x.symbol(0, 0, W.FUNCTION, W.LOCAL, 0, 0);
        for (int i = 0; i < 48; i++) {
            x.code(0, 0, W.GET, 0);
        }
        W.append(x, 0, 0, W.CALL, 0, W.RETURN, 0);
        W.function(x, 0, 2, 1, 1, W.GET, 0, W.GET, 1, W.SUB, 0, W.GET, 2, W.ADD, 0);
        W.linked("a deep one and another", x);
        for (int again = 0; again < 5; again++) {
            due("the deep one", x, 1, 1, DEPTH, 0, 40 * 49, 40);
            Check.same("the other one", x.run(0, 1, 50, 8, 99), RETURNED);
            Check.same("its value", x.told(0), 42);
            Check.same("its functions", x.told(2), 1);
        }
    }

    // Promise 13: steps and fuel

    /** "A STEP is a word": also BLOCK, END, and ELSE, met from before. */
    private static void aStepIsAWord() {
        due("a block", linked(0, 0, 0, W.BLOCK, 0, W.LOOP, 0, W.END, 0, W.END, 0), 0, 0, RETURNED, 0, 4, 1);
        ObjectLinker x = linked(1, 0, 0, W.GET, 0, W.IF, 0, W.BLOCK, 0, W.END, 0, W.ELSE, 0, W.END, 0);
        due("ELSE, met from before, goes to its END", x, 1, 0, RETURNED, 0, 6, 1);
        due("IF goes behind its ELSE", x, 0, 0, RETURNED, 0, 3, 1);
        ObjectLinker y = linked(1, 0, 0, W.GET, 0, W.IF, 0, W.BLOCK, 0, W.END, 0, W.END, 0);
        due("IF without ELSE goes behind its END", y, 0, 0, RETURNED, 0, 2, 1);
        due("IF that goes in", y, 1, 0, RETURNED, 0, 5, 1);
        due("BR goes behind END", linked(0, 0, 0, W.BLOCK, 0, W.BR, 0, W.END, 0, W.BLOCK, 0, W.END, 0), 0, 0,
                RETURNED, 0, 4, 1);
        due("a call has the words of its function", callOfThree(), 0, 0, RETURNED, 0, 5, 2);
    }

    private static ObjectLinker callOfThree() {
        ObjectLinker x = W.single(0, 0, 0, W.CALL, 0, W.RETURN, 0);
        W.function(x, 0, 0, 0, 0, W.SIZE, 0, W.DROP, 0, W.RETURN, 0);
        x.symbol(0, 0, W.FUNCTION, W.LOCAL, 1, 0);
        W.linked("a call", x);
        return x;
    }

    /** "0 it returned": at the code's end, by RETURN, by BR or BRIF to the function's end. */
    private static void anyWayToReturn() {
        due("no words", linked(0, 0, 0), 3, 4, RETURNED, 0, 0, 1);
        Check.same("no words, no fuel", linked(0, 0, 0).run(0, 0, 0, 0, 0), RETURNED);
        due("at the end", linked(1, 1, 0, W.GET, 0), 3, 4, RETURNED, 3, 1, 1);
        due("RETURN", linked(1, 1, 0, W.GET, 0, W.RETURN, 0, W.DROP, 0), 3, 4, RETURNED, 3, 2, 1);
        due("BR", linked(1, 1, 0, W.LOOP, 0, W.GET, 0, W.BR, 1, W.END, 0, W.GET, 0), 3, 4, RETURNED, 3, 3, 1);
        due("BRIF", linked(2, 1, 0, W.GET, 0, W.GET, 1, W.BRIF, 0), 3, 4, RETURNED, 3, 3, 1);
        due("60 words", sixtyWords(), 3, 4, RETURNED, 0, 60, 1);
    }

    private static ObjectLinker sixtyWords() {
        ObjectLinker x = W.single(0, 0, 0);
        for (int i = 0; i < 60; i++) {
            x.code(0, 0, i % 2 == 0 ? W.SIZE : W.DROP, 0);
        }
        W.linked("60 words", x);
        return x;
    }

    /** "1 more than fuel steps": what was done with the fuel is told, and is in memory. */
    private static void moreThanFuelSteps() {
        ObjectLinker x = linked(1, 0, 0, W.LOOP, 0, W.GET, 0, W.CONST, 1, W.STORE1, 0, W.GET, 0, W.CONST, 1, W.ADD, 0,
                W.SET, 0, W.BR, 0, W.END, 0);
        for (int fuel = 0; fuel <= 20; fuel++) {
            Check.same("fuel " + fuel, x.run(0, 0, 100, 0, fuel), FUEL);
            Check.same("steps", x.told(1), fuel);
            Check.same("value", x.told(0), 0);
            for (int i = 0; i < 3; i++) {
                Check.same("byte " + i, x.memory(100 + i), fuel >= 4 + 8 * i ? 1 : 0);
            }
        }
        ObjectLinker y = callOfThree();
        int[] deepest = {1, 2, 2, 2, 2};
        for (int fuel = 0; fuel < 5; fuel++) {
            Check.same("fuel of a call", y.run(0, 0, 0, 0, fuel), FUEL);
            Check.same("functions one in the other", y.told(2), deepest[fuel]);
        }
    }

    /** "Also that with which a run ends (but for 1)": without fuel for it, the word does not end the run. */
    private static void fuelBeforeEachEnd() {
        due("DIV", linked(0, 1, 0, W.SIZE, 0, W.CONST, 0, W.DIV, 0), 0, 0, DIVISION, 0, 3, 1);
        due("REM", linked(0, 1, 0, W.SIZE, 0, W.CONST, 0, W.REM, 0), 0, 0, DIVISION, 0, 3, 1);
        due("LOAD", linked(0, 1, 0, W.SIZE, 0, W.LOAD, 0), 0, 0, ADDRESS, 0, 2, 1);
        due("STORE", linked(0, 0, 0, W.SIZE, 0, W.SIZE, 0, W.STORE, 0), 0, 0, ADDRESS, 0, 3, 1);
        due("INDIRECT", linked(0, 0, 0, W.SIZE, 0, W.INDIRECT, 0), 0, 0, NO_SLOT, 0, 2, 1);
        due("INDIRECT of slot 0", linked(0, 0, 0, W.CONST, 0, W.INDIRECT, 0), 0, 0, NO_SLOT, 0, 2, 1);
        due("CALL of itself", callOfItself(), 0, 0, DEPTH, 0, 40, 40);
        ObjectLinker x = W.single(0, 0, 0, W.CALL, 0);
        x.symbol(0, 0, W.FUNCTION, W.WEAK, W.NONE, 0);
        W.linked("a function that is not there", x);
        due("CALL of nothing", x, 0, 0, NOT_THERE, 0, 1, 1);
    }

    private static ObjectLinker callOfItself() {
        ObjectLinker x = W.single(0, 0, 0, W.CALL, 0);
        x.symbol(0, 0, W.FUNCTION, W.LOCAL, 0, 0);
        W.linked("a call of itself", x);
        return x;
    }

    // Promise 13: numbers

    private interface Reckoning {
        BigInteger of(BigInteger lower, BigInteger upper);
    }

    /** Each pair of edges, reckoned without bounds and then brought into 64 bits. */
    private static void reckoned(String what, int word, Reckoning due) {
        for (long lower : EDGES) {
            ObjectLinker x = linked(2, 1, 0, W.GET, 0, W.GET, 1, word, 0);
            for (long upper : EDGES) {
                String call = what + " of " + lower + " and " + upper;
                BigInteger value = due.of(BigInteger.valueOf(lower), BigInteger.valueOf(upper));
                Check.same(call + ": the end", x.run(0, 0, lower, upper, 3), value == null ? DIVISION : RETURNED);
                Check.same(call, x.told(0), value == null ? 0 : value.longValue());
                Check.same(call + ": the steps", x.told(1), 3);
            }
        }
    }

    private static BigInteger truth(boolean holds) {
        return holds ? BigInteger.ONE : BigInteger.ZERO;
    }

    private static BigInteger unsigned(BigInteger value) {
        return value.mod(BigInteger.ONE.shiftLeft(64));
    }

    private static int places(BigInteger upper) {
        return upper.mod(BigInteger.valueOf(64)).intValue();
    }

    /** "VALUES are 64-bit numbers." */
    private static void arithmeticWraps() {
        reckoned("ADD", W.ADD, BigInteger::add);
        reckoned("SUB", W.SUB, BigInteger::subtract);
        reckoned("MUL", W.MUL, BigInteger::multiply);
        reckoned("AND", W.AND, BigInteger::and);
        reckoned("OR", W.OR, BigInteger::or);
        reckoned("XOR", W.XOR, BigInteger::xor);
    }

    /** "SHL, SHRS, SHRU (by the upper one modulo 64)." */
    private static void shiftsAreModulo64() {
        reckoned("SHL", W.SHL, (lower, upper) -> lower.shiftLeft(places(upper)));
        reckoned("SHRS", W.SHRS, (lower, upper) -> lower.shiftRight(places(upper)));
        reckoned("SHRU", W.SHRU, (lower, upper) -> unsigned(lower).shiftRight(places(upper)));
    }

    /** "EQ, LTS, LTU (1 or 0)." */
    private static void comparisons() {
        reckoned("EQ", W.EQ, (lower, upper) -> truth(lower.equals(upper)));
        reckoned("LTS", W.LTS, (lower, upper) -> truth(lower.compareTo(upper) < 0));
        reckoned("LTU", W.LTU, (lower, upper) -> truth(unsigned(lower).compareTo(unsigned(upper)) < 0));
    }

    /** "DIV, REM (signed, to 0)"; "DIV or REM by 0, or the least number by -1 with DIV". */
    private static void divisionsTo0() {
        BigInteger most = BigInteger.valueOf(Long.MAX_VALUE);
        reckoned("DIV", W.DIV, (lower, upper) ->
                upper.signum() == 0 || lower.divide(upper).compareTo(most) > 0 ? null : lower.divide(upper));
        reckoned("REM", W.REM, (lower, upper) -> upper.signum() == 0 ? null : lower.remainder(upper));
    }

    /** "2 DIV or REM by 0, or the least number by -1 with DIV." */
    private static void divisionsThatEndIt() {
        ObjectLinker div = linked(2, 1, 0, W.GET, 0, W.GET, 1, W.DIV, 0);
        ObjectLinker rem = linked(2, 1, 0, W.GET, 0, W.GET, 1, W.REM, 0);
        due("0 by 0", div, 0, 0, DIVISION, 0, 3, 1);
        due("0 by 0 with REM", rem, 0, 0, DIVISION, 0, 3, 1);
        due("the least by 0", div, Long.MIN_VALUE, 0, DIVISION, 0, 3, 1);
        due("the least by 0 with REM", rem, Long.MIN_VALUE, 0, DIVISION, 0, 3, 1);
        due("the least by -1", div, Long.MIN_VALUE, -1, DIVISION, 0, 3, 1);
        due("the least by -1 with REM", rem, Long.MIN_VALUE, -1, RETURNED, 0, 3, 1);
        due("the least by 1", div, Long.MIN_VALUE, 1, RETURNED, Long.MIN_VALUE, 3, 1);
        due("one more by -1", div, Long.MIN_VALUE + 1, -1, RETURNED, Long.MAX_VALUE, 3, 1);
        due("the least of 32 bits by -1", div, Integer.MIN_VALUE, -1, RETURNED, 1L << 31, 3, 1);
    }

    /** "SELECT: .. a if c is not 0, else b"; "CONST a: pushes a". */
    private static void selectAndConst() {
        ObjectLinker x = linked(1, 1, 0, W.CONST, 10, W.CONST, 20, W.GET, 0, W.SELECT, 0);
        for (long c : EDGES) {
            due("SELECT with " + c, x, c, 0, RETURNED, c != 0 ? 10 : 20, 4, 1);
        }
        for (int a : new int[] {0, 1, -1, 63, 64, -64, -65, Integer.MAX_VALUE, Integer.MIN_VALUE}) {
            due("CONST", linked(0, 1, 0, W.CONST, a), 0, 0, RETURNED, a, 1, 1);
        }
    }

    // Promise 13: addresses

    private static ObjectLinker access(int word, int offset) {
        return word == W.LOAD || word == W.LOAD1 ? linked(1, 1, 0, W.GET, 0, word, offset)
                : linked(1, 1, 0, W.CONST, 7, W.GET, 0, W.CONST, -1, word, offset);
    }

    /** "3 an address that is below 0 or has its last byte beyond the memory." */
    private static void addressesInMemory() {
        for (int word = W.LOAD; word <= W.STORE1; word++) {
            int width = word == W.LOAD || word == W.STORE ? 8 : 1;
            boolean stores = word == W.STORE || word == W.STORE1;
            for (int offset : new int[] {0, 1, 7, 8, 500, 999, 1000}) {
                ObjectLinker x = access(word, offset);
                for (int first : new int[] {0, 1, 1023 - width, 1024 - width, 1025 - width, 1023, 1024}) {
                    int address = first - offset;
                    boolean inside = address >= 0 && first + width <= 1024;
                    String what = "word " + word + " at " + address + " + " + offset;
                    due(what, x, address, 0, inside ? RETURNED : ADDRESS, inside && stores ? 7 : 0, stores ? 4 : 2, 1);
                    Check.same(what, x.run(0, 0, address, 0, 99), inside ? RETURNED : ADDRESS);
                    Check.same(what + ": the memory's last byte", x.memory(1023),
                            stores && inside && first + width == 1024 ? 255 : 0);
                    Check.same(what + ": the memory's first byte", x.memory(0), stores && inside && first == 0 ? 255 : 0);
                }
            }
        }
    }

    /** "(Reckoned unsigned in 64 bits, without wrapping)." */
    private static void addressesDoNotWrap() {
        for (int word = W.LOAD; word <= W.STORE1; word++) {
            boolean stores = word == W.STORE || word == W.STORE1;
            for (int offset : new int[] {0, 1, 8, 9, 1000}) {
                ObjectLinker x = access(word, offset);
                long[] addresses = {-1, -offset, -offset + 1, -8, -9, Long.MIN_VALUE, Long.MAX_VALUE, Long.MAX_VALUE - offset,
                    1L << 32, (1L << 32) - offset, -(1L << 32), 1L << 31, Long.MIN_VALUE + 16};
                for (long address : addresses) {
                    if (address < 0 || address > 1024) {
                        due("word " + word + " at " + address + " + " + offset, x, address, 0, ADDRESS, 0, stores ? 4 : 2, 1);
                        Check.same("nothing is stored", x.memory(0), 0);
                    }
                }
            }
        }
    }

    /** "The lowest first"; "one byte likewise (loaded as 0 .. 255)". */
    private static void bytesThatAreLoadedAndStored() {
        ObjectLinker x = linked(2, 1, 0, W.GET, 0, W.GET, 1, W.STORE, 0, W.GET, 0, W.LOAD, 0);
        for (long value : EDGES) {
            due("STORE of " + value, x, 1016, value, RETURNED, value, 5, 1);
            x.run(0, 0, 1016, value, 5);
            for (int i = 0; i < 8; i++) {
                Check.same("byte " + i + " of " + value, x.memory(1016 + i), value >> (8 * i) & 255);
            }
        }
        ObjectLinker y = linked(2, 1, 0, W.GET, 0, W.GET, 1, W.STORE1, 0, W.GET, 0, W.LOAD1, 0);
        for (long value : EDGES) {
            due("STORE1 of " + value, y, 1022, value, RETURNED, value & 255, 5, 1);
            y.run(0, 0, 1022, value, 5);
            Check.same("its byte", y.memory(1022), value & 255);
            Check.same("the byte behind it", y.memory(1023), 0);
        }
    }

    // Promise 13: calls

    /** Function 0 calls slot x with INDIRECT a, and y as each parameter; slots 1 to 3 have the types 3, 1 and 0. */
    private static ObjectLinker table(int a) {
        ObjectLinker x = W.single(2, 0, 0);
        for (int i = 0; i < a / 2; i++) {
            x.code(0, 0, W.GET, 1);
        }
        W.append(x, 0, 0, W.GET, 0, W.INDIRECT, a, W.RETURN, 0);
        W.append(x, 0, 0, W.SLOT, 0, W.SLOT, 1, W.SLOT, 2, W.DROP, 0, W.DROP, 0, W.DROP, 0);
        W.function(x, 0, 1, 1, 0, W.GET, 0);
        W.function(x, 0, 0, 1, 0, W.SIZE, 0);
        W.function(x, 0, 0, 0, 0);
        for (int i = 0; i < 3; i++) {
            x.symbol(0, i, W.FUNCTION, W.LOCAL, 1 + i, 0);
        }
        W.linked("a table", x);
        return x;
    }

    /** "4 INDIRECT of a slot that is not there, or has nothing": all that are not 1 .. 3. */
    private static void slotsThatAreNotThere() {
        for (int a : new int[] {0, 1, 3, 9}) {
            ObjectLinker x = table(a);
            long[] slots = {0, 4, 5, -1, -3, 1L << 32, (1L << 32) + 1, (1L << 32) + 3, Long.MIN_VALUE, Long.MIN_VALUE + 1,
                Long.MAX_VALUE};
            for (long slot : slots) {
                due("slot " + slot, x, slot, 0, NO_SLOT, 0, a / 2 + 2, 1);
            }
        }
        ObjectLinker none = linked(1, 0, 0, W.GET, 0, W.INDIRECT, 0);
        for (long slot : new long[] {0, 1, -1}) {
            due("no slots at all", none, slot, 0, NO_SLOT, 0, 2, 1);
        }
    }

    /** "5 whose function has other parameters or results." */
    private static void otherParametersOrResults() {
        int[] types = {3, 1, 0};
        for (int a = 0; a < 10; a++) {
            ObjectLinker x = table(a);
            for (int slot = 1; slot <= 3; slot++) {
                boolean same = types[slot - 1] == a;
                int inside = a == 0 ? 0 : 1;
                due("INDIRECT " + a + " of slot " + slot, x, slot, 5, same ? RETURNED : OTHER, 0,
                        a / 2 + 2 + (same ? inside + 1 : 0), same ? 2 : 1);
            }
        }
    }

    /** Function 0 calls itself x times, one in the other, and answers the last one's y. */
    private static ObjectLinker nested() {
        ObjectLinker x = W.single(2, 1, 0, W.GET, 0, W.IF, 1, W.GET, 0, W.CONST, 1, W.SUB, 0, W.GET, 1, W.CALL, 0,
                W.ELSE, 0, W.GET, 1, W.END, 0);
        x.symbol(0, 0, W.FUNCTION, W.LOCAL, 0, 0);
        W.linked("nested calls", x);
        return x;
    }

    /** "6 more than 40 functions one in the other (the first one, too)"; "40, when it ended with 6". */
    private static void fortyFunctions() {
        ObjectLinker x = nested();
        for (int more = 0; more < 40; more++) {
            due(more + 1 + " functions", x, more, -5, RETURNED, -5, 9 * more + 4, more + 1);
        }
        for (int more = 40; more < 43; more++) {
            due(more + 1 + " functions", x, more, -5, DEPTH, 0, 40 * 7, 40);
        }
    }

    /** INDIRECT goes into functions as CALL does. */
    private static void fortyFunctionsBySlots() {
        ObjectLinker x = W.single(1, 0, 0, W.GET, 0, W.IF, 0, W.GET, 0, W.CONST, 1, W.SUB, 0, W.SLOT, 0, W.INDIRECT, 2,
                W.END, 0);
        x.symbol(0, 0, W.FUNCTION, W.LOCAL, 0, 0);
        W.linked("nested by slots", x);
        due("40 functions", x, 39, 0, RETURNED, 0, 39 * 8 + 2, 40);
        due("41 functions", x, 40, 0, DEPTH, 0, 40 * 7, 40);
    }

    /** A function that has parameters, locals and so many values, and calls itself x times, one in the other. */
    private static ObjectLinker laden(int values, int behind, int timesBehind) {
        ObjectLinker x = W.single(4, 1, 4);
        for (int i = 0; i < values; i++) {
            x.code(0, 0, W.CONST, 1);
        }
        W.append(x, 0, 0, W.GET, 0, W.IF, 1, W.GET, 0, W.CONST, 1, W.SUB, 0, W.GET, 1, W.GET, 1, W.GET, 1, W.CALL, 0,
                W.ELSE, 0, W.GET, 1, W.END, 0);
        for (int i = 0; i < timesBehind; i++) {
            x.code(0, 0, behind, 0);
        }
        x.symbol(0, 0, W.FUNCTION, W.LOCAL, 0, 0);
        W.linked(values + " values", x);
        return x;
    }

    /** Forty functions with as many values as 2000 steps can push: each finds its own again. */
    private static void fortyFunctionsWithManyValues() {
        due("values that are added", laden(19, W.ADD, 19), 39, -5, RETURNED, -5 + 40 * 19, 39 * 49 + 42, 40);
        due("values that are dropped", laden(37, W.RETURN, 1), 39, -5, RETURNED, -5, 39 * 49 + 42, 40);
        due("a function more", laden(37, W.RETURN, 1), 40, -5, DEPTH, 0, 40 * 46, 40);
    }

    /** "One in the other": not one behind the other. */
    private static void functionsOneBehindTheOther() {
        ObjectLinker x = W.single(1, 0, 0, W.LOOP, 0, W.CALL, 0, W.CALL, 1, W.GET, 0, W.CONST, 1, W.SUB, 0, W.SET, 0,
                W.GET, 0, W.BRIF, 0, W.END, 0);
        W.function(x, 0, 0, 0, 0, W.CALL, 1);
        W.function(x, 0, 0, 0, 0);
        x.symbol(0, 0, W.FUNCTION, W.LOCAL, 1, 0);
        x.symbol(0, 1, W.FUNCTION, W.LOCAL, 2, 0);
        W.linked("a loop of calls", x);
        due("100 times", x, 100, 0, RETURNED, 0, 1 + 100 * 9 + 1, 3);
    }

    /** Function 0 goes x functions deep, and in the last one does what y tells. */
    private static ObjectLinker deepEnd(int... last) {
        ObjectLinker x = W.single(2, 0, 0, W.GET, 0, W.IF, 0, W.GET, 0, W.CONST, 1, W.SUB, 0, W.GET, 1, W.CALL, 0,
                W.ELSE, 0);
        x.symbol(0, 0, W.FUNCTION, W.LOCAL, 0, 0);
        x.symbol(0, 1, W.FUNCTION, W.WEAK, W.NONE, 0);
        W.append(x, 0, 0, last);
        W.append(x, 0, 0, W.END, 0, W.SLOT, 0, W.SLOT, 2, W.DROP, 0, W.DROP, 0);
        x.function(0, 0, 0, 0);
        x.symbol(0, 2, W.FUNCTION, W.LOCAL, 1, 0);
        W.linked("a deep end", x);
        return x;
    }

    /** "(4 before 5, 5 before 6; 7 before 6.)" */
    private static void whichEndBeforeWhich() {
        ObjectLinker x = deepEnd(W.GET, 1, W.INDIRECT, 0);
        int deep = 39 * 7;
        due("a slot that fits, at 40", x, 39, 2, DEPTH, 0, deep + 4, 40);
        due("a slot of another type, at 40", x, 39, 1, OTHER, 0, deep + 4, 40);
        due("a slot that is not there, at 40", x, 39, 3, NO_SLOT, 0, deep + 4, 40);
        due("a slot that has nothing, at 40", x, 39, 0, NO_SLOT, 0, deep + 4, 40);
        due("a slot that fits, at 39", x, 38, 2, RETURNED, 0, 38 * 13 + 9, 40);
        due("a slot of another type, at 39", x, 38, 1, OTHER, 0, 38 * 7 + 4, 39);
        ObjectLinker y = deepEnd(W.CALL, 1);
        due("a function that is not there, at 40", y, 39, 0, NOT_THERE, 0, deep + 3, 40);
        due("a function that is not there, at 39", y, 38, 0, NOT_THERE, 0, 38 * 7 + 3, 39);
        ObjectLinker z = deepEnd(W.CALL, 2);
        due("a function that is there, at 40", z, 39, 0, DEPTH, 0, deep + 3, 40);
        due("a function that is there, at 39", z, 38, 0, RETURNED, 0, 38 * 13 + 8, 40);
    }

    /** "7 CALL of a function that is not there": whatever it was to have. */
    private static void functionsThatAreNotThere() {
        for (int told = 0; told < 10; told++) {
            ObjectLinker x = W.single(0, 0, 0);
            x.symbol(0, 0, W.FUNCTION, W.WEAK, W.NONE, told);
            for (int i = 0; i < told / 2; i++) {
                x.code(0, 0, W.SIZE, 0);
            }
            W.append(x, 0, 0, W.CALL, 0, W.RETURN, 0);
            W.linked("not there", x);
            due("told " + told, x, 0, 0, NOT_THERE, 0, told / 2 + 1, 1);
        }
    }

    // Promise 13: blocks

    /** Blocks and functions of no words. */
    private static void emptyBlocksAndFunctions() {
        due("blocks", linked(0, 0, 0, W.BLOCK, 0, W.END, 0, W.LOOP, 0, W.END, 0), 0, 0, RETURNED, 0, 4, 1);
        ObjectLinker x = W.single(0, 0, 0, W.CALL, 0, W.CALL, 0);
        x.function(0, 0, 0, 4);
        x.symbol(0, 0, W.FUNCTION, W.LOCAL, 1, 0);
        W.linked("calls of no words", x);
        due("calls of no words", x, 0, 0, RETURNED, 0, 2, 2);
    }

    /** "With as many values as that leaves; to a LOOP .. with none. Values below these that came in the block are dropped." */
    private static void branchesDropValues() {
        for (int extra = 0; extra < 4; extra++) {
            ObjectLinker x = W.single(1, 1, 0, W.CONST, 100, W.BLOCK, 1);
            for (int i = 0; i < extra; i++) {
                x.code(0, 0, W.CONST, 50);
            }
            W.append(x, 0, 0, W.CONST, 1, W.BR, 0, W.END, 0, W.SUB, 0);
            W.linked("BR with one", x);
            due("BR with one over " + extra, x, 0, 0, RETURNED, 99, 5 + extra, 1);

            ObjectLinker y = W.single(1, 1, 0, W.CONST, 100, W.BLOCK, 0);
            for (int i = 0; i < extra; i++) {
                y.code(0, 0, W.CONST, 50);
            }
            W.append(y, 0, 0, W.BR, 0, W.END, 0, W.CONST, 1, W.SUB, 0);
            W.linked("BR with none", y);
            due("BR with none over " + extra, y, 0, 0, RETURNED, 99, 5 + extra, 1);

            ObjectLinker z = W.single(1, 1, 0, W.CONST, 100, W.LOOP, 1, W.GET, 0, W.CONST, 1, W.SUB, 0, W.SET, 0);
            for (int i = 0; i < extra; i++) {
                z.code(0, 0, W.CONST, 50);
            }
            W.append(z, 0, 0, W.GET, 0, W.BRIF, 0);
            for (int i = 0; i < extra; i++) {
                z.code(0, 0, W.DROP, 0);
            }
            W.append(z, 0, 0, W.CONST, 1, W.END, 0, W.SUB, 0);
            W.linked("BRIF to a LOOP", z);
            due("BRIF to a LOOP over " + extra, z, 3, 0, RETURNED, 99, 2 + 3 * (6 + extra) + extra + 3, 1);
        }
    }
}
