/** Promises 8 and 9: the faults WORD and CODE, and where they are. */
public final class CodeTest {
    private static final int WORD = 1;
    private static final int CODE = 2;

    public static void main(String[] args) {
        numbersOfWords();
        symbolsOfWords();
        whatWordsPop();
        blocks();
        ifs();
        branches();
        behindBranches();
        calls();
        theEnd();
        whichComesFirst();
        Check.end();
    }

    /** The fault of a function with 1 parameter and 1 local: at the place, or NONE. */
    private static void due(String what, int results, int fault, int place, int... pairs) {
        W.faulty(what, W.single(1, results, 1, pairs), place == W.NONE ? 0 : fault, place);
    }

    private static void numbersOfWords() {
        due("GET 1", 1, WORD, W.NONE, W.GET, 1);
        due("GET 2", 1, WORD, 0, W.GET, 2);
        due("GET -1", 1, WORD, 0, W.GET, -1);
        due("SET 1", 0, WORD, W.NONE, W.CONST, 0, W.SET, 1);
        due("SET 2", 0, WORD, 1, W.CONST, 0, W.SET, 2);
        due("SET -1", 0, WORD, 1, W.CONST, 0, W.SET, -1);
        for (int word : new int[] {W.LOAD, W.LOAD1}) {
            due("LOAD 1000", 1, WORD, W.NONE, W.CONST, 0, word, 1000);
            due("LOAD 1001", 1, WORD, 1, W.CONST, 0, word, 1001);
            due("LOAD -1", 1, WORD, 1, W.CONST, 0, word, -1);
        }
        for (int word : new int[] {W.STORE, W.STORE1}) {
            due("STORE 1000", 0, WORD, W.NONE, W.CONST, 0, W.CONST, 0, word, 1000);
            due("STORE 1001", 0, WORD, 2, W.CONST, 0, W.CONST, 0, word, 1001);
            due("STORE -1", 0, WORD, 2, W.CONST, 0, W.CONST, 0, word, -1);
        }
        for (int word : new int[] {W.BLOCK, W.LOOP}) {
            due("block 1", 1, WORD, W.NONE, word, 1, W.CONST, 0, W.END, 0);
            due("block 2", 1, WORD, 0, word, 2, W.END, 0);
            due("block -1", 1, WORD, 0, word, -1, W.END, 0);
        }
        due("IF 2", 1, WORD, 1, W.GET, 0, W.IF, 2, W.END, 0);
        due("IF -1", 1, WORD, 1, W.GET, 0, W.IF, -1, W.END, 0);
        due("INDIRECT 9", 1, WORD, W.NONE,
                W.GET, 0, W.GET, 0, W.GET, 0, W.GET, 0, W.GET, 0, W.INDIRECT, 9);
        due("INDIRECT 10", 1, WORD, 0, W.INDIRECT, 10);
        due("INDIRECT -1", 1, WORD, 0, W.INDIRECT, -1);
        due("BR 30 is a number that can be, the block is not", 0, CODE, 0, W.BR, 30);
        due("BR 31", 0, WORD, 0, W.BR, 31);
        due("BR -1", 0, WORD, 0, W.BR, -1);
        due("BRIF 30", 0, CODE, 1, W.GET, 0, W.BRIF, 30);
        due("BRIF 31", 0, WORD, 1, W.GET, 0, W.BRIF, 31);
        due("BRIF -1", 0, WORD, 1, W.GET, 0, W.BRIF, -1);
        due("CONST of any number", 1, WORD, W.NONE, W.CONST, Integer.MIN_VALUE);
        due("words without a number", 1, WORD, W.NONE, W.SIZE, -7, W.SIZE, 99, W.ADD, 1001, W.GET, 0, W.GET, 0,
                W.SELECT, 5000, W.GET, 0, W.DROP, -1, W.RETURN, 77);
        due("ELSE and END are without a number", 0, WORD, W.NONE,
                W.GET, 0, W.IF, 0, W.ELSE, -3, W.END, 31);
        W.faulty("GET 0 without locals", W.single(0, 1, 0, W.GET, 0), WORD, 0);
        W.faulty("GET 7 of 8", W.single(4, 1, 4, W.GET, 7), 0, W.NONE);
        W.faulty("GET 8 of 8", W.single(4, 1, 4, W.GET, 8), WORD, 0);
    }

    private static void symbolsOfWords() {
        for (int word : new int[] {W.CALL, W.SLOT, W.ADDRESS}) {
            int kind = word == W.ADDRESS ? W.DATA : W.FUNCTION;
            for (int a = -1; a < 4; a++) {
                ObjectLinker x = W.objects(2);
                W.function(x, 1, 0, 0, 0);
                W.function(x, 1, 0, 1, 0, W.GET, 0, word, a);
                W.function(x, 0, 0, word == W.CALL ? 0 : 1, 0, word, a);
                x.symbol(0, 1, kind, W.WEAK, W.NONE, 0);
                x.symbol(0, 2, 1 - kind, W.WEAK, W.NONE, 0);
                x.symbol(0, 3, kind, W.WEAK, W.NONE, 0);
                boolean fits = a == 0 || a == 2;
                W.faulty("symbol " + a + " of word " + word, x, WORD, fits ? 1100 : 0);
            }
        }
    }

    private static void whatWordsPop() {
        int[] pops = {0, 0, 1, 2, 2, 2, 2, 2, 2, 2, 2, 2, 2, 2, 2, 2, 2, 3, 1, 1, 2, 1, 2};
        int[] pushes = {1, 1, 0, 1, 1, 1, 1, 1, 1, 1, 1, 1, 1, 1, 1, 1, 1, 1, 0, 1, 0, 1, 0};
        for (int word = 0; word < pops.length; word++) {
            for (int there = 0; there < 5; there++) {
                for (int results = 0; results < 2; results++) {
                    ObjectLinker x = W.single(1, results, 0);
                    for (int i = 0; i < there; i++) {
                        x.code(0, 0, W.GET, 0);
                    }
                    x.code(0, 0, word, 0);
                    int left = there - pops[word] + pushes[word];
                    int place = there < pops[word] ? there : left == results ? W.NONE : there + 1;
                    W.faulty(there + " values before word " + word, x, place == W.NONE ? 0 : CODE, place);
                }
            }
        }
        due("SIZE pushes one", 1, CODE, W.NONE, W.SIZE, 0);
        due("SIZE pushes", 0, CODE, 1, W.SIZE, 0);
        due("what is below the block is not there", 1, CODE, 2, W.GET, 0, W.BLOCK, 1, W.DROP, 0, W.END, 0);
        due("what is below the loop is not there", 1, CODE, 3,
                W.GET, 0, W.LOOP, 0, W.GET, 0, W.ADD, 0, W.END, 0);
    }

    private static void blocks() {
        due("an empty block", 0, CODE, W.NONE, W.BLOCK, 0, W.END, 0);
        due("a block that leaves too much", 0, CODE, 2, W.BLOCK, 0, W.GET, 0, W.END, 0, W.DROP, 0);
        due("a block that leaves too little", 1, CODE, 1, W.BLOCK, 1, W.END, 0);
        due("a block that leaves two", 1, CODE, 3, W.BLOCK, 1, W.GET, 0, W.GET, 0, W.END, 0);
        due("a block's value is used", 1, CODE, W.NONE,
                W.GET, 0, W.BLOCK, 1, W.GET, 0, W.END, 0, W.ADD, 0);
        due("a loop that leaves one", 1, CODE, W.NONE, W.LOOP, 1, W.GET, 0, W.END, 0);
        due("a loop that leaves too little", 1, CODE, 1, W.LOOP, 1, W.END, 0);
        due("END without a block", 0, CODE, 0, W.END, 0);
        due("END too many", 0, CODE, 2, W.BLOCK, 0, W.END, 0, W.END, 0);
        due("no END", 0, CODE, 1, W.BLOCK, 0);
        due("one END too few", 0, CODE, 3, W.BLOCK, 0, W.LOOP, 0, W.END, 0);
        due("blocks in blocks", 1, CODE, W.NONE, W.BLOCK, 1, W.BLOCK, 1, W.BLOCK, 1, W.GET, 0,
                W.END, 0, W.END, 0, W.END, 0);
    }

    private static void ifs() {
        due("IF without c", 0, CODE, 0, W.IF, 0, W.END, 0);
        due("IF without ELSE", 0, CODE, W.NONE, W.GET, 0, W.IF, 0, W.END, 0);
        due("IF 1 without ELSE", 1, CODE, 3, W.GET, 0, W.IF, 1, W.GET, 0, W.END, 0);
        due("IF 1 without ELSE behind BR", 1, CODE, 4, W.GET, 0, W.IF, 1, W.GET, 0, W.BR, 0, W.END, 0);
        due("IF 1 with ELSE", 1, CODE, W.NONE,
                W.GET, 0, W.IF, 1, W.GET, 0, W.ELSE, 0, W.GET, 0, W.END, 0);
        due("too little at ELSE", 1, CODE, 2, W.GET, 0, W.IF, 1, W.ELSE, 0, W.GET, 0, W.END, 0);
        due("too much at ELSE", 0, CODE, 3, W.GET, 0, W.IF, 0, W.GET, 0, W.ELSE, 0, W.END, 0);
        due("too little behind ELSE", 1, CODE, 4, W.GET, 0, W.IF, 1, W.GET, 0, W.ELSE, 0, W.END, 0);
        due("too much behind ELSE", 0, CODE, 4, W.GET, 0, W.IF, 0, W.ELSE, 0, W.GET, 0, W.END, 0);
        due("what came before ELSE is not there behind it", 1, CODE, 4,
                W.GET, 0, W.IF, 1, W.GET, 0, W.ELSE, 0, W.DROP, 0, W.END, 0);
        due("a second ELSE", 0, CODE, 3, W.GET, 0, W.IF, 0, W.ELSE, 0, W.ELSE, 0, W.END, 0);
        due("ELSE without IF", 0, CODE, 0, W.ELSE, 0);
        due("ELSE of a block", 0, CODE, 1, W.BLOCK, 0, W.ELSE, 0, W.END, 0);
        due("ELSE of a loop", 0, CODE, 1, W.LOOP, 0, W.ELSE, 0, W.END, 0);
        due("ELSE of a block in IF", 0, CODE, 3,
                W.GET, 0, W.IF, 0, W.BLOCK, 0, W.ELSE, 0, W.END, 0, W.END, 0);
        due("IF without END", 0, CODE, 3, W.GET, 0, W.IF, 0, W.ELSE, 0);
    }

    private static void branches() {
        due("BR to the function's end", 1, CODE, W.NONE, W.GET, 0, W.BR, 0);
        due("BR to it without the results", 1, CODE, 0, W.BR, 0);
        due("BR too far", 0, CODE, 0, W.BR, 1);
        due("BR past all blocks", 0, CODE, W.NONE, W.BLOCK, 0, W.LOOP, 0, W.BR, 2, W.END, 0, W.END, 0);
        due("BR farther than that", 0, CODE, 2, W.BLOCK, 0, W.LOOP, 0, W.BR, 3, W.END, 0, W.END, 0);
        due("BR with more than it takes", 1, CODE, W.NONE,
                W.BLOCK, 1, W.GET, 0, W.GET, 0, W.GET, 0, W.BR, 0, W.END, 0);
        due("BR with less than it takes", 1, CODE, 1, W.BLOCK, 1, W.BR, 0, W.END, 0);
        due("BR takes nothing from below its block", 1, CODE, 3,
                W.BLOCK, 1, W.GET, 0, W.BLOCK, 0, W.BR, 1, W.END, 0, W.END, 0);
        due("BR to a loop takes nothing", 1, CODE, W.NONE, W.LOOP, 1, W.BR, 0, W.END, 0);
        due("BRIF to a loop takes nothing but c", 1, CODE, W.NONE,
                W.LOOP, 1, W.GET, 0, W.BRIF, 0, W.GET, 0, W.END, 0);
        due("BRIF without c", 0, CODE, 1, W.BLOCK, 0, W.BRIF, 0, W.END, 0);
        due("BRIF with c alone", 1, CODE, 2, W.BLOCK, 1, W.GET, 0, W.BRIF, 0, W.GET, 0, W.END, 0);
        due("BRIF keeps what its goal takes", 1, CODE, W.NONE,
                W.BLOCK, 1, W.GET, 0, W.GET, 0, W.BRIF, 0, W.END, 0);
        due("BRIF drops c", 1, CODE, 4, W.BLOCK, 1, W.GET, 0, W.GET, 0, W.BRIF, 0, W.ADD, 0, W.END, 0);
        due("BRIF to the function's end", 1, CODE, W.NONE, W.GET, 0, W.GET, 0, W.BRIF, 0);
        due("BRIF too far", 1, CODE, 2, W.GET, 0, W.GET, 0, W.BRIF, 1);
        due("RETURN", 1, CODE, W.NONE, W.GET, 0, W.RETURN, 0);
        due("RETURN with more", 1, CODE, W.NONE, W.GET, 0, W.GET, 0, W.RETURN, 0);
        due("RETURN of nothing with more", 0, CODE, W.NONE, W.GET, 0, W.GET, 0, W.RETURN, 0);
        due("RETURN with less", 1, CODE, 0, W.RETURN, 0);
        due("RETURN takes nothing from below its block", 1, CODE, 2,
                W.GET, 0, W.BLOCK, 0, W.RETURN, 0, W.END, 0);
    }

    private static void behindBranches() {
        due("any word may pop", 1, CODE, W.NONE, W.GET, 0, W.BR, 0, W.ADD, 0, W.SELECT, 0);
        due("less may be there at the end", 1, CODE, W.NONE, W.GET, 0, W.RETURN, 0, W.DROP, 0);
        due("just enough may be there at the end", 1, CODE, W.NONE, W.GET, 0, W.RETURN, 0, W.GET, 0);
        due("more may not be there at the end", 1, CODE, 4, W.GET, 0, W.RETURN, 0, W.GET, 0, W.GET, 0);
        due("more may not be there at END", 0, CODE, 3, W.BLOCK, 0, W.BR, 0, W.GET, 0, W.END, 0);
        due("more may not be there at ELSE", 0, CODE, 4,
                W.GET, 0, W.IF, 0, W.BR, 0, W.GET, 0, W.ELSE, 0, W.END, 0);
        due("what was there before is dropped", 0, CODE, W.NONE, W.BLOCK, 0, W.GET, 0, W.BR, 0, W.END, 0);
        due("it ends with END", 0, CODE, 3, W.BLOCK, 0, W.BR, 0, W.END, 0, W.DROP, 0);
        due("END leaves what it tells", 1, CODE, W.NONE, W.BLOCK, 1, W.GET, 0, W.BR, 0, W.END, 0);
        due("it ends with ELSE", 0, CODE, 4, W.GET, 0, W.IF, 0, W.BR, 0, W.ELSE, 0, W.DROP, 0, W.END, 0);
        due("blocks are looked at", 0, CODE, 1, W.BR, 0, W.END, 0);
        due("the goal must be there", 0, CODE, 1, W.BR, 0, W.BR, 1);
        due("BRIF may pop", 1, CODE, W.NONE, W.BLOCK, 1, W.GET, 0, W.BR, 0, W.BRIF, 0, W.END, 0);
        due("BRIF leaves what its goal takes", 1, CODE, 4,
                W.BLOCK, 1, W.BLOCK, 0, W.BR, 0, W.BRIF, 1, W.END, 0, W.GET, 0, W.END, 0);
        due("BRIF goes on behind it", 0, CODE, 3, W.BLOCK, 0, W.GET, 0, W.BRIF, 0, W.DROP, 0, W.END, 0);
        due("a block behind BR must have what its own words pop", 0, CODE, 2,
                W.BR, 0, W.BLOCK, 0, W.DROP, 0, W.END, 0);
        due("a block behind BR must leave what it tells", 0, CODE, 2, W.BR, 0, W.BLOCK, 1, W.END, 0);
        due("a block behind BR that is right", 0, CODE, W.NONE,
                W.BR, 0, W.BLOCK, 1, W.GET, 0, W.END, 0, W.ADD, 0, W.DROP, 0);
        due("numbers are looked at", 0, WORD, 1, W.BR, 0, W.GET, 2);
    }

    private static void calls() {
        for (int told = 0; told < 10; told++) {
            for (int there = 0; there < 6; there++) {
                int left = there - told / 2 + told % 2;
                int place = there < told / 2 ? there : left == 1 ? W.NONE : there + 1;
                ObjectLinker x = W.single(1, 1, 0);
                x.symbol(0, 0, W.FUNCTION, W.WEAK, W.NONE, told);
                for (int i = 0; i < there; i++) {
                    x.code(0, 0, W.GET, 0);
                }
                x.code(0, 0, W.CALL, 0);
                W.faulty("CALL of " + told + " with " + there, x, place == W.NONE ? 0 : CODE, place);

                ObjectLinker y = W.single(1, 1, 0);
                for (int i = 0; i < there; i++) {
                    y.code(0, 0, W.GET, 0);
                }
                y.code(0, 0, W.SIZE, 0);
                y.code(0, 0, W.INDIRECT, told);
                int later = place == W.NONE ? W.NONE : there < told / 2 ? there + 1 : there + 2;
                W.faulty("INDIRECT " + told + " with " + there, y, place == W.NONE ? 0 : CODE, later);
            }
        }
        due("INDIRECT without a slot", 0, CODE, 0, W.INDIRECT, 0);
        ObjectLinker x = W.objects(1);
        W.function(x, 0, 2, 1, 0, W.GET, 0);
        x.symbol(0, 0, W.FUNCTION, W.STRONG, 0, 0);
        W.function(x, 0, 0, 1, 0, W.SIZE, 0, W.CALL, 0);
        W.faulty("CALL of a function that its symbol defines", x, CODE, 101);
        theDefiningSymbolTells();
    }

    /** A weak symbol tells of what it defines, even if another one is meant by it. */
    private static void theDefiningSymbolTells() {
        ObjectLinker x = W.objects(2);
        W.function(x, 0, 1, 0, 0);
        x.symbol(0, 0, W.FUNCTION, W.WEAK, 0, 0);
        W.function(x, 0, 0, 0, 0, W.CALL, 0);
        W.function(x, 1, 0, 0, 0);
        x.symbol(1, 0, W.FUNCTION, W.STRONG, 0, 0);
        W.faulty("CALL of a weak one", x, CODE, 100);
    }

    private static void theEnd() {
        due("no code, no results", 0, CODE, W.NONE);
        due("no code, one result", 1, CODE, 0);
        due("too much at the end", 0, CODE, 1, W.GET, 0);
        due("two of one at the end", 1, CODE, 2, W.GET, 0, W.GET, 0);
        ObjectLinker x = W.single(0, 0, 0);
        for (int i = 0; i < 60; i++) {
            x.code(0, 0, W.BLOCK, 0);
        }
        W.faulty("60 blocks that do not end", x, CODE, 60);
        ObjectLinker y = W.single(0, 0, 0);
        for (int i = 0; i < 60; i++) {
            y.code(0, 0, i < 30 ? W.LOOP : W.END, 0);
        }
        W.linked("30 loops", y);
    }

    private static void whichComesFirst() {
        ObjectLinker x = W.objects(3);
        W.function(x, 1, 0, 0, 0);
        W.function(x, 1, 0, 0, 0, W.BLOCK, 0, W.END, 0, W.DROP, 0, W.DROP, 0);
        W.function(x, 1, 0, 0, 0, W.DROP, 0);
        W.function(x, 2, 0, 0, 0, W.BR, 0, W.BR, 0, W.GET, 4, W.GET, 5);
        W.function(x, 2, 0, 0, 0, W.GET, 4);
        W.faulty("a number of a later object comes before a stack", x, WORD, 2002);
        W.function(x, 1, 0, 0, 0, W.BR, 31);
        W.faulty("the first object with a wrong number", x, WORD, 1300);
        ObjectLinker y = W.objects(2);
        W.function(y, 1, 0, 0, 0, W.DROP, 0);
        y.symbol(0, 0, W.FUNCTION, W.STRONG, W.NONE, 0);
        W.faulty("a stack comes before a name", y, CODE, 1000);
        W.function(y, 0, 0, 0, 0);
        W.function(y, 0, 0, 0, 0, W.CONST, 0);
        W.faulty("the first object with a wrong stack", y, CODE, 101);
    }
}
