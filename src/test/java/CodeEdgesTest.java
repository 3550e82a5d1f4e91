/** The boundary cases of the faults WORD and CODE (promises 8 and 9), a method for each sentence that names one. */
public final class CodeEdgesTest {
    private static final int WORD = 1;
    private static final int CODE = 2;

    public static void main(String[] args) {
        numbersOfLocals();
        numbersOfAddresses();
        numbersOfBlocks();
        numbersOfIndirect();
        numbersOfBranches();
        symbolsThatAreThere();
        symbolsOfTheRightKind();
        numbersThatAreNotLookedAt();
        whatWordsPopInTheirBlock();
        justWhatBlocksLeave();
        atLeastWhatBranchesTake();
        returnTakesTheResults();
        whatStaysWhenBrifDoesNotGo();
        theBlockMustBeThere();
        callsPopAndPushAsToldBySymbols();
        theFunctionsEnd();
        emptyCode();
        blocksThatAreNotClosed();
        blocksThatWereNotOpened();
        behindBranchesWordsMayPop();
        behindBranchesNoMoreThanIsLeft();
        upToEndOrElse();
        brifIsNoEnd();
        ifOneWithoutElse();
        theGreatestPlaces();
        theFirstOfSeveralPlaces();
        Check.end();
    }

    // BR 9 stands behind what is looked at where any later place shows that the words before it are right.

    /** Appends a word so many times. */
    private static void repeat(ObjectLinker x, int many, int word, int a) {
        for (int i = 0; i < many; i++) {
            x.code(0, 0, word, a);
        }
    }

    private static void due(String what, ObjectLinker x, int place) {
        W.faulty(what, x, place == W.NONE ? 0 : CODE, place);
    }

    // 1 WORD: a number is out of its bounds

    /** Behind RETURN the stack does not matter, so that only the word's number can be a fault WORD. */
    private static void wordBounds(int word, int least, int most, int parameters, int locals) {
        int[] outside = {Integer.MIN_VALUE, least - 256, least - 1, most + 1, most + 256, Integer.MAX_VALUE};
        for (int a : outside) {
            W.faulty("word " + word + " with " + a, W.single(parameters, 0, locals, W.RETURN, 0, word, a), WORD, 1);
        }
        for (int a = least; a <= most; a++) {
            int fault = W.single(parameters, 0, locals, W.RETURN, 0, word, a).link();
            Check.same("word " + word + " with " + a + " is a fault WORD", fault == WORD ? 1 : 0, 0);
        }
    }

    /** "Of locals": the parameters, and the locals behind them. */
    private static void numbersOfLocals() {
        int[][] counts = {{0, 0}, {1, 0}, {0, 1}, {4, 0}, {0, 4}, {2, 3}, {4, 4}};
        for (int[] count : counts) {
            wordBounds(W.GET, 0, count[0] + count[1] - 1, count[0], count[1]);
            wordBounds(W.SET, 0, count[0] + count[1] - 1, count[0], count[1]);
        }
    }

    /** "LOAD and STORE 0 .. 1000." */
    private static void numbersOfAddresses() {
        for (int word = W.LOAD; word <= W.STORE1; word++) {
            wordBounds(word, 0, 1000, 0, 0);
        }
    }

    /** "Blocks 0 or 1." */
    private static void numbersOfBlocks() {
        for (int word = W.BLOCK; word <= W.IF; word++) {
            wordBounds(word, 0, 1, 0, 0);
        }
    }

    /** "INDIRECT 0 .. 9." */
    private static void numbersOfIndirect() {
        wordBounds(W.INDIRECT, 0, 9, 0, 0);
    }

    /** "BR 0 .. 30." */
    private static void numbersOfBranches() {
        wordBounds(W.BR, 0, 30, 0, 0);
        wordBounds(W.BRIF, 0, 30, 0, 0);
    }

    /** "Symbols that are there": those of the function's own object, when it is linked. */
    private static void symbolsThatAreThere() {
        for (int word : new int[] {W.CALL, W.ADDRESS, W.SLOT}) {
            int kind = word == W.ADDRESS ? W.DATA : W.FUNCTION;
            wordBounds(word, 0, -1, 0, 0);
            ObjectLinker x = W.single(0, 0, 0, W.RETURN, 0, word, 15, W.RETURN, 0);
            x.object();
            for (int i = 0; i < 16; i++) {
                x.symbol(1, i, kind, W.WEAK, W.NONE, 0);
            }
            for (int i = 0; i < 16; i++) {
                W.faulty("symbol 15 of " + i + " for word " + word, x, WORD, 1);
                x.symbol(0, i, kind, W.WEAK, W.NONE, 0);
            }
            W.linked("symbol 15 of 16 for word " + word, x);
            x.code(0, 0, word, 16);
            W.faulty("symbol 16 of 16 for word " + word, x, WORD, 3);
        }
    }

    /** "And of the right kind (31, 34 functions; 33 data)." */
    private static void symbolsOfTheRightKind() {
        for (int word : new int[] {W.CALL, W.ADDRESS, W.SLOT}) {
            for (int kind = 0; kind < 2; kind++) {
                for (int binding = 0; binding < 3; binding++) {
                    ObjectLinker x = W.single(0, 0, 0, W.RETURN, 0, word, 0, W.RETURN, 0);
                    x.segment(0, 1, 0);
                    x.symbol(0, 0, kind, binding, 0, 0);
                    boolean right = kind == (word == W.ADDRESS ? W.DATA : W.FUNCTION);
                    W.faulty("word " + word + ", kind " + kind, x, right ? 0 : WORD, right ? W.NONE : 1);
                }
            }
        }
    }

    /** "(Of CONST none is; of words without a number it is not looked at)." */
    private static void numbersThatAreNotLookedAt() {
        int[] any = {Integer.MIN_VALUE, -1, 2, 31, 1001, Integer.MAX_VALUE};
        for (int a : any) {
            W.linked("CONST " + a, W.single(0, 1, 0, W.CONST, a));
            for (int word = W.ADD; word <= W.LTU; word++) {
                W.linked("word " + word + " with " + a, W.single(2, 1, 0, W.GET, 0, W.GET, 1, word, a));
            }
            W.linked("SELECT with " + a, W.single(1, 1, 0, W.GET, 0, W.GET, 0, W.GET, 0, W.SELECT, a));
            W.linked("DROP with " + a, W.single(1, 0, 0, W.GET, 0, W.DROP, a));
            W.linked("ELSE and END with " + a, W.single(1, 0, 0, W.GET, 0, W.IF, 0, W.ELSE, a, W.END, a));
            W.linked("RETURN with " + a, W.single(0, 0, 0, W.RETURN, a));
            W.linked("SIZE with " + a, W.single(0, 1, 0, W.SIZE, a));
        }
    }

    // 2 CODE: blocks are not as they must be, or the stack

    /** How many values a word pops whose number is 0. */
    private static int pops(int word) {
        int[] row = {0, 0, 1, 2, 2, 2, 2, 2, 2, 2, 2, 2, 2, 2, 2, 2, 2, 3, 1, 1, 2, 1, 2,
            0, 0, 1, 0, 0, 0, 1, 0, 0, 1, 0, 0, 0};
        return row[word];
    }

    /** An object that has a function with a parameter, and the symbols 0 (a function) and 1 (data). */
    private static ObjectLinker withSymbols(int results) {
        ObjectLinker x = W.single(1, results, 0);
        x.symbol(0, 0, W.FUNCTION, W.WEAK, W.NONE, 0);
        x.symbol(0, 1, W.DATA, W.WEAK, W.NONE, 0);
        return x;
    }

    private static int numberOf(int word) {
        return word == W.ADDRESS ? 1 : 0;
    }

    /** "Each word must have what it pops in its block": what is below the block does not count. */
    private static void whatWordsPopInTheirBlock() {
        for (int word = 0; word < 36; word++) {
            boolean closes = word == W.ELSE || word == W.END;
            for (int there = 0; there <= pops(word) && !closes; there++) {
                ObjectLinker x = withSymbols(0);
                repeat(x, 4, W.GET, 0);
                x.code(0, 0, W.BLOCK, 0);
                repeat(x, there, W.GET, 0);
                W.append(x, 0, 0, word, numberOf(word), W.BR, 9);
                int place = 5 + there + (there < pops(word) ? 0 : 1);
                due(there + " values in the block before word " + word, x, place);
            }
        }
    }

    /** "Each block must have just what it leaves at its END (and ELSE)." */
    private static void justWhatBlocksLeave() {
        for (int leaves = 0; leaves < 2; leaves++) {
            for (int there = 0; there < 4; there++) {
                int wrong = there == leaves ? W.NONE : there;
                for (int opener = W.BLOCK; opener <= W.LOOP; opener++) {
                    ObjectLinker x = W.single(1, leaves, 0, opener, leaves);
                    repeat(x, there, W.GET, 0);
                    x.code(0, 0, W.END, 0);
                    due("END of " + opener + " " + leaves + " with " + there, x, wrong == W.NONE ? wrong : 1 + there);
                }
                atElse(leaves, there, wrong);
                behindElse(leaves, there, wrong);
            }
        }
    }

    private static void atElse(int leaves, int there, int wrong) {
        ObjectLinker x = W.single(1, leaves, 0, W.GET, 0, W.IF, leaves);
        repeat(x, there, W.GET, 0);
        x.code(0, 0, W.ELSE, 0);
        repeat(x, leaves, W.GET, 0);
        x.code(0, 0, W.END, 0);
        due("ELSE of IF " + leaves + " with " + there, x, wrong == W.NONE ? wrong : 2 + there);
    }

    private static void behindElse(int leaves, int there, int wrong) {
        ObjectLinker x = W.single(1, leaves, 0, W.GET, 0, W.IF, leaves);
        repeat(x, leaves, W.GET, 0);
        x.code(0, 0, W.ELSE, 0);
        repeat(x, there, W.GET, 0);
        x.code(0, 0, W.END, 0);
        due("END of IF " + leaves + " with " + there, x, wrong == W.NONE ? wrong : 3 + leaves + there);
    }

    /** "BR .. must have at least what they take", BRIF likewise behind c; of a LOOP that is nothing. */
    private static void atLeastWhatBranchesTake() {
        for (int leaves = 0; leaves < 2; leaves++) {
            for (int there = 0; there < 4; there++) {
                for (int opener = W.BLOCK; opener <= W.LOOP; opener++) {
                    int taken = opener == W.LOOP ? 0 : leaves;
                    String what = "with " + there + " to " + opener + " " + leaves;
                    ObjectLinker x = W.single(1, leaves, 0, opener, leaves);
                    repeat(x, there, W.GET, 0);
                    W.append(x, 0, 0, W.BR, 0, W.END, 0);
                    due("BR " + what, x, there < taken ? 1 + there : W.NONE);

                    ObjectLinker y = W.single(1, leaves, 0, opener, leaves);
                    repeat(y, there + 1, W.GET, 0);
                    W.append(y, 0, 0, W.BRIF, 0, W.BR, 9);
                    due("BRIF " + what, y, there < taken ? 2 + there : 3 + there);
                }
                toTheFunction(leaves, there);
            }
        }
    }

    private static void toTheFunction(int results, int there) {
        for (int word : new int[] {W.BR, W.BRIF}) {
            int c = word == W.BRIF ? 1 : 0;
            ObjectLinker x = W.single(1, results, 0, W.GET, 0, W.BLOCK, 0);
            repeat(x, there + c, W.GET, 0);
            W.append(x, 0, 0, word, 1, W.BR, 9);
            due("to the function's end with " + there, x, there < results ? 2 + there + c : 3 + there + c);
        }
    }

    /** "RETURN the results": in its block, whatever the block leaves. */
    private static void returnTakesTheResults() {
        for (int results = 0; results < 2; results++) {
            for (int there = 0; there < 4; there++) {
                ObjectLinker x = W.single(1, results, 0);
                repeat(x, there, W.GET, 0);
                x.code(0, 0, W.RETURN, 0);
                due("RETURN with " + there, x, there < results ? there : W.NONE);
                for (int leaves = 0; leaves < 2; leaves++) {
                    ObjectLinker y = W.single(1, results, 0, W.GET, 0, W.BLOCK, leaves);
                    repeat(y, there, W.GET, 0);
                    W.append(y, 0, 0, W.RETURN, 0, W.END, 0, W.BR, 9);
                    due("RETURN in BLOCK " + leaves + " with " + there, y, there < results ? 2 + there : 4 + there);
                }
            }
        }
    }

    /** "BRIF what its goal takes, behind c, which stays when it does not go." */
    private static void whatStaysWhenBrifDoesNotGo() {
        for (int there = 1; there < 4; there++) {
            for (int drops = 0; drops < 4; drops++) {
                ObjectLinker x = W.single(1, 1, 0, W.BLOCK, 1);
                repeat(x, there + 1, W.GET, 0);
                x.code(0, 0, W.BRIF, 0);
                repeat(x, drops, W.DROP, 0);
                x.code(0, 0, W.END, 0);
                int left = there - drops;
                int place = left == 1 ? W.NONE : left < 0 ? 3 + 2 * there : 3 + there + drops;
                due(there + " behind c, then " + drops + " DROP", x, place);
            }
        }
    }

    /** "(0 the innermost; as many as there are: the function's end)", "and the block must be there". */
    private static void theBlockMustBeThere() {
        for (int word : new int[] {W.BR, W.BRIF}) {
            int c = word == W.BRIF ? 1 : 0;
            for (int open = 0; open < 29; open++) {
                for (int more = 0; more < 2; more++) {
                    ObjectLinker x = W.single(1, 0, 0);
                    repeat(x, open, W.BLOCK, 0);
                    repeat(x, c, W.GET, 0);
                    x.code(0, 0, word, open + more);
                    repeat(x, open, W.END, 0);
                    due("word " + word + " " + (open + more) + " in " + open, x, more == 0 ? W.NONE : open + c);
                }
            }
        }
        ObjectLinker x = W.single(0, 0, 0);
        repeat(x, 30, W.LOOP, 0);
        x.code(0, 0, W.BR, 30);
        repeat(x, 29, W.END, 0);
        due("BR 30 in 30 blocks, of which one is not closed", x, 60);
        due("BR 30 behind BR", W.single(0, 0, 0, W.BR, 0, W.BR, 30), 1);
        due("BRIF 1 behind BR", W.single(0, 0, 0, W.BR, 0, W.BRIF, 1), 1);
    }

    /** "CALL pops and pushes as its symbol tells (6)": what it tells is a function's, or its offset's. */
    private static void callsPopAndPushAsToldBySymbols() {
        for (int parameters = 0; parameters < 5; parameters++) {
            for (int results = 0; results < 2; results++) {
                for (int there = Math.max(0, parameters - 1); there < parameters + 2; there++) {
                    ObjectLinker x = W.single(1, 0, 0, W.GET, 0, W.BLOCK, 0);
                    x.function(0, parameters, results, 0);
                    repeat(x, there, W.GET, 0);
                    x.code(0, 0, W.CALL, 0);
                    repeat(x, there - parameters + results, W.DROP, 0);
                    W.append(x, 0, 0, W.DROP, 0);
                    x.symbol(0, 0, W.FUNCTION, W.LOCAL, 1, 0);
                    int drops = there - parameters + results;
                    due("CALL of " + parameters + ", " + results + " with " + there, x,
                            there < parameters ? 2 + there : 3 + there + drops);
                }
            }
        }
    }

    /** "The function's code ends its outermost block, with its results." */
    private static void theFunctionsEnd() {
        for (int results = 0; results < 2; results++) {
            for (int there = 0; there < 4; there++) {
                ObjectLinker x = W.single(1, results, 0);
                repeat(x, there, W.GET, 0);
                due(there + " at the end of " + results, x, there == results ? W.NONE : there);
            }
        }
    }

    /** A code of no words is ended at once. */
    private static void emptyCode() {
        for (int parameters = 0; parameters < 5; parameters++) {
            for (int locals = 0; locals < 5; locals++) {
                due("no words, no results", W.single(parameters, 0, locals), W.NONE);
                due("no words, a result", W.single(parameters, 1, locals), 0);
            }
        }
    }

    /** "Blocks are not as they must be": some are open "at the end". */
    private static void blocksThatAreNotClosed() {
        for (int opened = 1; opened < 31; opened++) {
            ObjectLinker x = W.single(0, 0, 0);
            for (int i = 0; i < opened; i++) {
                x.code(0, 0, i % 2 == 0 ? W.BLOCK : W.LOOP, 0);
            }
            repeat(x, opened - 1, W.END, 0);
            due(opened + " blocks, one too few END", x, 2 * opened - 1);
            if (opened < 30) {
                x.code(0, 0, W.END, 0);
                due(opened + " blocks, all closed", x, W.NONE);
            }
        }
        due("an IF", W.single(1, 0, 0, W.GET, 0, W.IF, 0), 2);
        due("an ELSE", W.single(1, 0, 0, W.GET, 0, W.IF, 0, W.ELSE, 0), 3);
        due("behind RETURN", W.single(0, 0, 0, W.BLOCK, 0, W.RETURN, 0), 2);
        due("a block of one that has it", W.single(0, 1, 0, W.BLOCK, 1, W.SIZE, 0), 2);
    }

    /** "Blocks are not as they must be": END without a block, ELSE without an IF, or a second ELSE. */
    private static void blocksThatWereNotOpened() {
        due("END alone", W.single(0, 0, 0, W.END, 0), 0);
        due("END with the result", W.single(0, 1, 0, W.SIZE, 0, W.END, 0), 1);
        due("END behind RETURN", W.single(0, 0, 0, W.RETURN, 0, W.END, 0), 1);
        due("ELSE alone", W.single(0, 0, 0, W.ELSE, 0), 0);
        due("ELSE behind RETURN", W.single(0, 0, 0, W.RETURN, 0, W.ELSE, 0), 1);
        due("ELSE of a block", W.single(0, 0, 0, W.BLOCK, 0, W.ELSE, 0, W.END, 0), 1);
        due("ELSE of a loop", W.single(0, 0, 0, W.LOOP, 0, W.ELSE, 0, W.END, 0), 1);
        due("ELSE behind IF's END", W.single(1, 0, 0, W.GET, 0, W.IF, 0, W.END, 0, W.ELSE, 0), 3);
        due("a second ELSE", W.single(1, 0, 0, W.GET, 0, W.IF, 0, W.ELSE, 0, W.ELSE, 0, W.END, 0), 3);
        due("a second ELSE behind BR", W.single(1, 0, 0, W.GET, 0, W.IF, 0, W.ELSE, 0, W.BR, 0, W.ELSE, 0, W.END, 0), 4);
    }

    /** "Behind BR and RETURN up to the block's END or ELSE any word may pop what is not there." */
    private static void behindBranchesWordsMayPop() {
        for (int word = 0; word < 36; word++) {
            boolean blocks = word >= W.BLOCK && word <= W.END;
            for (int away : new int[] {W.BR, W.RETURN}) {
                for (int there = 0; there <= pops(word) && !blocks; there++) {
                    ObjectLinker x = withSymbols(0);
                    x.code(0, 0, away, 0);
                    repeat(x, there, W.GET, 0);
                    W.append(x, 0, 0, word, numberOf(word), W.DROP, 0, W.DROP, 0);
                    due(there + " behind " + away + " before word " + word, x, W.NONE);
                }
            }
        }
        due("IF behind BR", W.single(0, 0, 0, W.BR, 0, W.IF, 0, W.END, 0), W.NONE);
        due("CALL of four behind BR", callOfFour(), W.NONE);
        due("INDIRECT 9 behind BR", W.single(0, 1, 0, W.SIZE, 0, W.BR, 0, W.INDIRECT, 9), W.NONE);
    }

    private static ObjectLinker callOfFour() {
        ObjectLinker x = W.single(0, 1, 0, W.SIZE, 0, W.BR, 0, W.CALL, 0);
        x.symbol(0, 0, W.FUNCTION, W.WEAK, W.NONE, 9);
        return x;
    }

    /** "And more than what is left may not be there at its end": less may. */
    private static void behindBranchesNoMoreThanIsLeft() {
        for (int leaves = 0; leaves < 2; leaves++) {
            for (int there = 0; there < 4; there++) {
                ObjectLinker x = W.single(1, leaves, 0, W.BLOCK, leaves, W.GET, 0, W.BR, 0);
                repeat(x, there, W.GET, 0);
                x.code(0, 0, W.END, 0);
                due(there + " at END behind BR of " + leaves, x, there > leaves ? 3 + there : W.NONE);

                ObjectLinker y = W.single(1, leaves, 0, W.GET, 0, W.IF, leaves, W.GET, 0, W.RETURN, 0);
                repeat(y, there, W.GET, 0);
                W.append(y, 0, 0, W.ELSE, 0, W.GET, 0, W.RETURN, 0, W.END, 0);
                due(there + " at ELSE behind RETURN of " + leaves, y, there > leaves ? 4 + there : W.NONE);

                ObjectLinker z = W.single(1, leaves, 0, W.GET, 0, W.RETURN, 0);
                repeat(z, there, W.GET, 0);
                due(there + " at the function's end of " + leaves, z, there > leaves ? 2 + there : W.NONE);
            }
        }
    }

    /** "Up to the block's END or ELSE": behind these each word must have what it pops again. */
    private static void upToEndOrElse() {
        due("behind END", W.single(0, 0, 0, W.BLOCK, 0, W.BR, 0, W.END, 0, W.DROP, 0), 3);
        due("behind END of two", W.single(0, 0, 0, W.BLOCK, 0, W.BLOCK, 0, W.BR, 1, W.DROP, 0, W.END, 0, W.DROP, 0), 5);
        due("behind RETURN's END", W.single(0, 0, 0, W.LOOP, 0, W.RETURN, 0, W.DROP, 0, W.END, 0, W.DROP, 0), 4);
        due("behind ELSE", W.single(1, 0, 0, W.GET, 0, W.IF, 0, W.BR, 0, W.DROP, 0, W.ELSE, 0, W.DROP, 0, W.END, 0), 5);
        due("behind ELSE's END", W.single(1, 0, 0, W.GET, 0, W.IF, 0, W.BR, 0, W.ELSE, 0, W.BR, 0, W.END, 0, W.DROP, 0), 6);
        due("what END leaves is there", W.single(0, 0, 0, W.BLOCK, 1, W.SIZE, 0, W.BR, 0, W.END, 0, W.DROP, 0), W.NONE);
        due("a block's END within", W.single(0, 0, 0, W.BR, 0, W.BLOCK, 0, W.END, 0, W.DROP, 0, W.DROP, 0), W.NONE);
        due("the next block", W.single(0, 0, 0, W.BLOCK, 0, W.BR, 0, W.END, 0, W.BLOCK, 0, W.DROP, 0, W.END, 0), 4);
        ObjectLinker x = W.single(0, 0, 0, W.RETURN, 0, W.DROP, 0);
        due("a function", x, W.NONE);
        W.function(x, 0, 0, 0, 0, W.DROP, 0);
        due("the next function", x, 100);
    }

    /** BRIF is not BR: what is behind it must have what it pops. */
    private static void brifIsNoEnd() {
        due("BRIF", W.single(1, 0, 0, W.GET, 0, W.BRIF, 0, W.DROP, 0), 2);
        due("BRIF in a block", W.single(1, 0, 0, W.BLOCK, 0, W.GET, 0, W.BRIF, 1, W.DROP, 0, W.END, 0), 3);
    }

    /** "An IF 1 without ELSE is wrong, too (at its END)." */
    private static void ifOneWithoutElse() {
        due("with its value", W.single(1, 1, 0, W.GET, 0, W.IF, 1, W.GET, 0, W.END, 0), 3);
        due("without it", W.single(1, 1, 0, W.GET, 0, W.IF, 1, W.END, 0), 2);
        due("with RETURN", W.single(1, 1, 0, W.GET, 0, W.IF, 1, W.GET, 0, W.RETURN, 0, W.END, 0), 4);
        due("with BR", W.single(1, 1, 0, W.GET, 0, W.IF, 1, W.GET, 0, W.BR, 1, W.GET, 0, W.END, 0), 5);
        due("IF 0", W.single(1, 0, 0, W.GET, 0, W.IF, 0, W.END, 0), W.NONE);
    }

    // Where

    /** "1000 times the object, 100 times the function, and the place": "or how many there are at the end". */
    private static void theGreatestPlaces() {
        ObjectLinker x = W.objects(6);
        for (int i = 0; i < 8; i++) {
            x.function(5, 0, 0, 0);
        }
        for (int i = 0; i < 59; i++) {
            x.code(5, 7, W.BLOCK, 0);
        }
        W.faulty("59 words", x, CODE, 5759);
        x.code(5, 7, W.BLOCK, 0);
        W.faulty("60 words", x, CODE, 5760);
        ObjectLinker y = W.objects(6);
        for (int i = 0; i < 8; i++) {
            y.function(5, 0, 0, 0);
        }
        for (int i = 0; i < 59; i++) {
            y.code(5, 7, W.RETURN, 0);
        }
        y.code(5, 7, W.BR, 31);
        W.faulty("the last word's number", y, WORD, 5759);
        ObjectLinker z = W.objects(6);
        z.function(5, 0, 1, 0);
        W.faulty("no words of object 5", z, CODE, 5000);
    }

    /** "Of several places the first object, then function or symbol, then place." */
    private static void theFirstOfSeveralPlaces() {
        for (int fault = WORD; fault <= CODE; fault++) {
            int word = fault == WORD ? W.GET : W.DROP;
            ObjectLinker x = W.objects(3);
            W.function(x, 2, 0, 0, 0, word, 0, word, 0);
            W.faulty("object 2", x, fault, 2000);
            x.function(1, 0, 0, 0);
            W.function(x, 1, 0, 0, 0, W.SIZE, 0, W.DROP, 0, word, 0, word, 0);
            W.faulty("object 1, function 1, place 2", x, fault, 1102);
            W.append(x, 1, 0, W.BLOCK, 0, W.END, 0, W.SIZE, 0, W.DROP, 0, word, 0);
            W.faulty("object 1, function 0, place 4", x, fault, 1004);
            for (int i = 0; i < 7; i++) {
                x.function(0, 0, 0, 0);
            }
            W.function(x, 0, 0, 0, 0, W.BLOCK, 0, W.END, 0, word, 0);
            W.faulty("object 0, function 7, place 2", x, fault, 702);
        }
    }
}
