/** Promises 8, 9 and 12: the faults 3 to 7, who is meant, and the layout. */
public final class LinkTest {
    private static final int DOUBLE = 3;
    private static final int MISSING = 4;
    private static final int KIND = 5;
    private static final int SIGNATURE = 6;
    private static final int ROOM = 7;

    public static void main(String[] args) {
        doubles();
        missing();
        kinds();
        signatures();
        room();
        orderOfFaults();
        placeStays();
        whoIsMeant();
        dataThatIsMeant();
        layout();
        slots();
        wrongInputsOfMeant();
        Check.end();
    }

    /** Objects that each have a function without parameters and results, and a segment of 8 bytes. */
    private static ObjectLinker furnished(int many) {
        ObjectLinker x = W.objects(many);
        for (int i = 0; i < many; i++) {
            x.function(i, 0, 0, 0);
            x.segment(i, 8, 0);
        }
        return x;
    }

    private static void doubles() {
        ObjectLinker x = furnished(3);
        x.symbol(0, 1, W.FUNCTION, W.STRONG, W.NONE, 0);
        x.symbol(1, 1, W.FUNCTION, W.WEAK, 0, 0);
        x.symbol(1, 1, W.FUNCTION, W.LOCAL, 0, 0);
        x.symbol(1, 1, W.FUNCTION, W.STRONG, 0, 0);
        x.symbol(2, 1, W.FUNCTION, W.WEAK, 0, 0);
        x.symbol(2, 1, W.FUNCTION, W.LOCAL, 0, 0);
        x.symbol(2, 1, W.FUNCTION, W.STRONG, W.NONE, 0);
        W.linked("one strong definition", x);
        x.symbol(2, 2, W.FUNCTION, W.STRONG, 0, 0);
        W.linked("one of another name", x);
        x.symbol(2, 1, W.FUNCTION, W.STRONG, 0, 0);
        W.faulty("a second one", x, DOUBLE, 204);
        x.symbol(0, 2, W.DATA, W.STRONG, 0, 0);
        W.faulty("a second one of another kind, which comes first", x, DOUBLE, 203);
        x.symbol(1, 2, W.FUNCTION, W.STRONG, 0, 0);
        W.faulty("now this is the second one", x, DOUBLE, 103);
        x.symbol(0, 2, W.DATA, W.STRONG, 0, 0);
        W.faulty("in one object", x, DOUBLE, 2);
    }

    private static void missing() {
        ObjectLinker x = furnished(3);
        x.symbol(1, 30, W.FUNCTION, W.WEAK, W.NONE, 3);
        x.symbol(1, 0, W.DATA, W.WEAK, W.NONE, 0);
        W.linked("weak ones alone", x);
        x.symbol(1, 0, W.DATA, W.STRONG, W.NONE, 0);
        W.faulty("a strong one", x, MISSING, 102);
        x.symbol(2, 0, W.DATA, W.LOCAL, 0, 0);
        W.faulty("a local one defines it", x, MISSING, 102);
        x.symbol(2, 0, W.DATA, W.WEAK, 0, 0);
        W.linked("a weak one defines it", x);
        x.symbol(2, 30, W.FUNCTION, W.LOCAL, W.NONE, 0);
        x.symbol(0, 30, W.FUNCTION, W.STRONG, 0, 0);
        W.faulty("a local one that defines nothing, of a name that is defined", x, MISSING, 202);
        x.symbol(0, 29, W.FUNCTION, W.STRONG, W.NONE, 0);
        W.faulty("the first object", x, MISSING, 1);
        ObjectLinker y = furnished(1);
        for (int name = 0; name < 15; name++) {
            y.symbol(0, name, W.FUNCTION, W.STRONG, 0, 0);
        }
        y.symbol(0, 30, W.FUNCTION, W.STRONG, W.NONE, 0);
        W.faulty("the last symbol", y, MISSING, 15);
    }

    private static void kinds() {
        ObjectLinker x = furnished(3);
        x.symbol(0, 0, W.DATA, W.LOCAL, 0, 0);
        x.symbol(1, 0, W.FUNCTION, W.WEAK, W.NONE, 0);
        x.symbol(2, 0, W.DATA, W.LOCAL, 0, 0);
        x.symbol(2, 6, W.DATA, W.WEAK, W.NONE, 0);
        W.linked("local ones have any kind", x);
        x.symbol(2, 0, W.DATA, W.STRONG, 0, 0);
        W.faulty("the first one tells, even if it defines nothing", x, KIND, 202);
        x.symbol(1, 0, W.DATA, W.WEAK, W.NONE, 0);
        W.faulty("the first of two", x, KIND, 101);
        x.symbol(0, 0, W.DATA, W.WEAK, W.NONE, 0);
        W.faulty("another first one", x, KIND, 100);
    }

    private static void signatures() {
        for (int parameters = 0; parameters <= 4; parameters++) {
            for (int results = 0; results <= 1; results++) {
                for (int told = 0; told < 10; told++) {
                    ObjectLinker x = caller(told);
                    x.function(1, parameters, results, 0);
                    if (results == 1) {
                        x.code(1, 0, W.SIZE, 0);
                    }
                    W.linked("nothing is meant", x);
                    x.symbol(1, 9, W.FUNCTION, W.WEAK, 0, 0);
                    boolean fits = told == 2 * parameters + results;
                    W.faulty("told " + told, x, fits ? 0 : SIGNATURE, fits ? W.NONE : 100 + told / 2);
                }
            }
        }
        ObjectLinker x = furnished(2);
        x.symbol(0, 1, W.FUNCTION, W.STRONG, W.NONE, 7);
        x.symbol(1, 1, W.FUNCTION, W.STRONG, 0, 0);
        W.function(x, 0, 0, 1, 0, W.SLOT, 0);
        W.linked("SLOT does not look at it", x);
        weakOneThatTellsOtherwise();
    }

    private static void weakOneThatTellsOtherwise() {
        ObjectLinker y = furnished(2);
        W.function(y, 0, 0, 1, 0, W.SIZE, 0);
        y.symbol(0, 1, W.FUNCTION, W.WEAK, 1, 0);
        y.symbol(0, 1, W.FUNCTION, W.LOCAL, 1, 0);
        W.function(y, 0, 0, 1, 0, W.CALL, 1);
        W.function(y, 0, 0, 1, 0, W.SIZE, 0, W.DROP, 0, W.CALL, 0);
        W.linked("it means itself", y);
        y.symbol(1, 1, W.FUNCTION, W.STRONG, 0, 0);
        W.faulty("a strong one is meant, but by the local one", y, SIGNATURE, 302);
        W.function(y, 0, 0, 1, 0, W.SIZE, 0, W.RETURN, 0, W.CALL, 0);
        W.append(y, 0, 0, W.RETURN, 0, W.CALL, 0, W.DROP, 0);
        W.faulty("behind RETURN, too", y, SIGNATURE, 1);
    }

    /** Object 0 has an empty function, and one that calls symbol 0, of which it is told so. */
    private static ObjectLinker caller(int told) {
        ObjectLinker x = W.objects(2);
        x.function(0, 0, 0, 0);
        x.function(0, 0, told % 2, 0);
        x.symbol(0, 9, W.FUNCTION, W.WEAK, W.NONE, told);
        for (int i = 0; i < told / 2; i++) {
            x.code(0, 1, W.SIZE, 0);
        }
        x.code(0, 1, W.CALL, 0);
        return x;
    }

    private static void room() {
        ObjectLinker x = W.objects(5);
        for (int i = 0; i < 15; i++) {
            x.segment(i / 4, 64, 4);
        }
        x.segment(3, 48, 0);
        W.linked("just enough", x);
        Check.same("the end", x.count(4), 1024);
        x.segment(4, 1, 0);
        W.faulty("one byte too many", x, ROOM, 0);
        Check.state("nothing is linked", () -> x.count(4));
        ObjectLinker y = W.objects(4);
        y.segment(0, 1, 0);
        for (int i = 4; i < 16; i++) {
            y.segment(i / 4, 64, 4);
        }
        y.segment(0, 64, 4);
        y.segment(0, 64, 4);
        y.segment(0, 64, 4);
        W.linked("alignment takes room", y);
        Check.same("the end of it", y.count(4), 16 + 16 + 15 * 64);
    }

    private static void orderOfFaults() {
        ObjectLinker x = W.objects(6);
        for (int i = 0; i < 17; i++) {
            x.segment(i / 4, 64, 0);
        }
        W.faulty("room", x, ROOM, 0);
        x.function(5, 0, 0, 0);
        x.symbol(5, 1, W.FUNCTION, W.STRONG, W.NONE, 1);
        x.symbol(5, 1, W.FUNCTION, W.WEAK, 0, 0);
        W.function(x, 5, 0, 1, 0, W.CALL, 0);
        W.faulty("a signature before it", x, SIGNATURE, 5100);
        x.symbol(5, 1, W.DATA, W.WEAK, W.NONE, 0);
        W.faulty("a kind before it", x, KIND, 502);
        x.symbol(5, 2, W.DATA, W.STRONG, W.NONE, 0);
        W.faulty("a missing one before it", x, MISSING, 503);
        x.symbol(5, 3, W.FUNCTION, W.STRONG, 0, 0);
        x.symbol(5, 3, W.FUNCTION, W.STRONG, 0, 0);
        W.faulty("a double one before it", x, DOUBLE, 505);
        W.function(x, 5, 0, 1, 0);
        W.faulty("code before it", x, 2, 5200);
        W.function(x, 5, 0, 1, 0, W.GET, 0);
        W.faulty("a word before it", x, 1, 5300);
    }

    private static void placeStays() {
        ObjectLinker x = W.objects(1);
        x.symbol(0, 1, W.FUNCTION, W.STRONG, W.NONE, 0);
        W.faulty("missing", x, MISSING, 0);
        x.function(0, 0, 0, 0);
        x.symbol(0, 1, W.FUNCTION, W.WEAK, 0, 0);
        Check.same("place behind changes", x.place(), 0);
        W.linked("there", x);
        x.symbol(0, 1, W.DATA, W.WEAK, W.NONE, 0);
        Check.same("place behind more changes", x.place(), W.NONE);
        W.faulty("kind", x, KIND, 2);
        Check.state("count", () -> x.count(0));
        Check.same("place behind what throws", x.place(), 2);
        W.faulty("again", x, KIND, 2);
    }

    private static void whoIsMeant() {
        ObjectLinker x = furnished(4);
        x.function(2, 0, 0, 0);
        int first = x.symbol(0, 7, W.FUNCTION, W.WEAK, W.NONE, 5);
        int local = x.symbol(0, 7, W.FUNCTION, W.LOCAL, 0, 0);
        W.linked("nothing", x);
        Check.same("a function that is not there", x.meant(0, first, 0), W.NONE);
        Check.same("its slot", x.meant(0, first, 1), 0);
        Check.same("a local one", x.meant(0, local, 0), 0);
        int second = x.symbol(2, 7, W.FUNCTION, W.WEAK, 1, 0);
        int third = x.symbol(3, 7, W.FUNCTION, W.WEAK, 0, 0);
        W.linked("weak ones", x);
        Check.same("the first weak one", x.meant(0, first, 0), 3);
        Check.same("itself", x.meant(2, second, 0), 3);
        Check.same("not itself", x.meant(3, third, 0), 3);
        int fourth = x.symbol(3, 7, W.FUNCTION, W.STRONG, 0, 0);
        int fifth = x.symbol(1, 7, W.FUNCTION, W.STRONG, W.NONE, 0);
        W.linked("a strong one", x);
        Check.same("the strong one", x.meant(0, first, 0), 4);
        Check.same("the strong one by a weak one", x.meant(2, second, 0), 4);
        Check.same("the strong one by itself", x.meant(3, fourth, 0), 4);
        Check.same("the strong one by one that defines nothing", x.meant(1, fifth, 0), 4);
        Check.same("the local one still", x.meant(0, local, 0), 0);
    }

    private static void dataThatIsMeant() {
        ObjectLinker x = furnished(3);
        int first = x.symbol(0, 7, W.DATA, W.WEAK, W.NONE, 0);
        int local = x.symbol(0, 7, W.DATA, W.LOCAL, 0, 8);
        W.linked("nothing", x);
        Check.same("data at 0", x.meant(0, first, 0), 0);
        Check.same("a local one", x.meant(0, local, 0), 24);
        x.symbol(1, 7, W.DATA, W.WEAK, 0, 3);
        W.linked("a weak one", x);
        Check.same("the weak one", x.meant(0, first, 0), 27);
        int strong = x.symbol(2, 7, W.DATA, W.STRONG, 0, 5);
        W.linked("a strong one", x);
        Check.same("the strong one", x.meant(0, first, 0), 37);
        Check.same("the strong one itself", x.meant(2, strong, 0), 37);
        Check.same("data has no slot", x.meant(2, strong, 1), 0);
    }

    private static void layout() {
        ObjectLinker x = W.objects(3);
        W.linked("nothing to lay out", x);
        Check.same("the end of nothing", x.count(4), 16);
        int[][] segments = {{0, 3, 0}, {2, 1, 4}, {0, 5, 2}, {1, 7, 1}, {2, 2, 3}, {0, 1, 4}};
        int[] addresses = {16, 48, 20, 34, 56, 32};
        int[] symbols = new int[segments.length];
        for (int i = 0; i < segments.length; i++) {
            int number = x.segment(segments[i][0], segments[i][1], segments[i][2]);
            symbols[i] = x.symbol(segments[i][0], i, W.DATA, W.STRONG, number, 0);
        }
        W.linked("segments", x);
        for (int i = 0; i < segments.length; i++) {
            Check.same("segment " + i, x.meant(segments[i][0], symbols[i], 0), addresses[i]);
        }
        Check.same("the end", x.count(4), 58);
    }

    private static void slots() {
        ObjectLinker x = W.objects(3);
        for (int object = 0; object < 3; object++) {
            for (int i = 0; i < 2; i++) {
                x.function(object, 0, 0, 0);
                x.symbol(object, 2 * object + i, W.FUNCTION, W.STRONG, i, 0);
            }
        }
        int here = x.symbol(1, 4, W.FUNCTION, W.WEAK, W.NONE, 0);
        int none = x.symbol(1, 20, W.FUNCTION, W.WEAK, W.NONE, 0);
        W.append(x, 2, 0, W.SLOT, 1, W.DROP, 0, W.SLOT, 0, W.DROP, 0);
        W.append(x, 1, 1, W.RETURN, 0, W.SLOT, none, W.SLOT, here, W.SLOT, here, W.DROP, 0, W.DROP, 0, W.DROP, 0);
        W.append(x, 0, 1, W.SLOT, 0, W.DROP, 0);
        W.linked("slots", x);
        Check.same("how many", x.count(3), 3);
        Check.same("the first", x.meant(0, 0, 1), 1);
        Check.same("the second", x.meant(1, here, 1), 2);
        Check.same("the second by another symbol", x.meant(2, 0, 1), 2);
        Check.same("the third", x.meant(2, 1, 1), 3);
        Check.same("none", x.meant(0, 1, 1), 0);
        Check.same("of nothing", x.meant(1, none, 1), 0);
        Check.same("a function of object 2", x.meant(2, 1, 0), 5);
    }

    private static void wrongInputsOfMeant() {
        ObjectLinker x = furnished(1);
        x.symbol(0, 0, W.FUNCTION, W.STRONG, 0, 0);
        Check.argument("symbol 1", () -> x.meant(0, 1, 0));
        Check.argument("what 2", () -> x.meant(0, 0, 2));
        Check.state("not linked", () -> x.meant(0, 0, 0));
        W.linked("one", x);
        Check.argument("object 1", () -> x.meant(1, 0, 0));
        Check.argument("object -1", () -> x.meant(-1, 0, 0));
        Check.argument("symbol 1 when linked", () -> x.meant(0, 1, 0));
        Check.argument("symbol -1", () -> x.meant(0, -1, 0));
        Check.argument("what 2 when linked", () -> x.meant(0, 0, 2));
        Check.argument("what -1", () -> x.meant(0, 0, -1));
        Check.same("still linked", x.meant(0, 0, 0), 0);
    }
}
