/** The boundary cases of promises 8, 9 and 12 but for code, a method for each sentence that names one. */
public final class LinkEdgesTest {
    private static final int WORD = 1;
    private static final int CODE = 2;
    private static final int DOUBLE = 3;
    private static final int MISSING = 4;
    private static final int KIND = 5;
    private static final int SIGNATURE = 6;
    private static final int ROOM = 7;

    public static void main(String[] args) {
        thereAreNoObjects();
        nothingIsLinkedThen();
        aSecondStrongSymbol();
        noSymbolDefinesTheName();
        aLocalOneDefinesNothing();
        anotherKindThanTheFirst();
        everyNameIsJoined();
        otherParametersOrResults();
        ofWhichNothingIsMeant();
        callsThatNothingGetsTo();
        moreThan1024Bytes();
        moreThan1024BytesByAlignment();
        eachFaultBeforeTheNext();
        theGreatestSymbol();
        theFirstOfSeveralSymbols();
        placeOfNoLink();
        placeOfTheLatestLink();
        meantHasItsBounds();
        theStrongOneElseTheFirstWeakOne();
        localOnesAlone();
        functionsThatAreNotThere();
        dataAtAddress0();
        offsetsUpToTheSize();
        theNextMultipleOfItsAlignment();
        slotsInTheirOrder();
        slotsOfNothing();
        Check.end();
    }

    /** Objects that each have a function without parameters and results, and a segment of 8 bytes. */
    private static ObjectLinker furnished(int many) {
        ObjectLinker x = W.objects(many);
        for (int i = 0; i < many; i++) {
            x.function(i, 0, 0, 0);
            x.segment(i, 8, 0);
        }
        return x;
    }

    // Promise 8

    /** "Illegal state: there are no objects." */
    private static void thereAreNoObjects() {
        ObjectLinker x = new ObjectLinker();
        Check.state("link of no objects", x::link);
        Check.state("link of no objects again", x::link);
        Check.same("place of no link", x.place(), W.NONE);
        x.object();
        W.linked("one empty object", x);
        W.linked("six empty objects", W.objects(6));
    }

    /** "Or the fault (nothing is linked then)": whatever was linked before, for each of the faults. */
    private static void nothingIsLinkedThen() {
        for (int fault = WORD; fault <= ROOM; fault++) {
            ObjectLinker x = furnished(6);
            x.symbol(0, 0, W.FUNCTION, W.STRONG, 0, 0);
            W.linked("before fault " + fault, x);
            Check.same("a run before it", x.run(0, 0, 0, 0, 9), 0);
            makeFault(x, fault);
            for (int again = 0; again < 2; again++) {
                Check.same("the fault", x.link(), fault);
                Check.state("count behind fault " + fault, () -> x.count(0));
                Check.state("byteAt behind fault " + fault, () -> x.byteAt(0));
                Check.state("meant behind fault " + fault, () -> x.meant(0, 0, 0));
                Check.state("run behind fault " + fault, () -> x.run(0, 0, 0, 0, 9));
            }
        }
    }

    private static void makeFault(ObjectLinker x, int fault) {
        switch (fault) {
            case WORD -> x.code(0, 0, W.GET, 0);
            case CODE -> x.code(0, 0, W.SIZE, 0);
            case DOUBLE -> x.symbol(1, 0, W.FUNCTION, W.STRONG, 0, 0);
            case MISSING -> x.symbol(1, 1, W.FUNCTION, W.STRONG, W.NONE, 0);
            case KIND -> x.symbol(1, 0, W.DATA, W.WEAK, 0, 0);
            case SIGNATURE -> {
                x.symbol(1, 0, W.FUNCTION, W.STRONG, W.NONE, 1);
                W.append(x, 1, 0, W.CALL, 0, W.DROP, 0);
            }
            default -> {
                for (int i = 0; i < 18; i++) {
                    x.segment(i / 3, 64, 0);
                }
            }
        }
    }

    /** "3 DOUBLE: a second strong symbol that is not local defines a name." */
    private static void aSecondStrongSymbol() {
        for (int first = 0; first < 3; first++) {
            for (int second = 0; second < 3; second++) {
                for (int defines = W.NONE; defines < 1; defines++) {
                    ObjectLinker x = furnished(2);
                    x.symbol(0, 4, W.FUNCTION, first, 0, 0);
                    x.symbol(1, 5, W.FUNCTION, W.STRONG, 0, 0);
                    x.symbol(1, 4, W.FUNCTION, second, defines, 0);
                    boolean doubled = first == W.STRONG && second == W.STRONG && defines == 0;
                    int fault = x.link();
                    Check.same("binding " + first + ", then " + second, fault == DOUBLE ? 1 : 0, doubled ? 1 : 0);
                    Check.same("its place", doubled ? x.place() : 101, 101);
                }
            }
        }
    }

    /** "4 MISSING: a strong symbol that .. defines nothing, has a name that no symbol that is not local defines." */
    private static void noSymbolDefinesTheName() {
        for (int binding = 0; binding < 3; binding++) {
            for (int defines = W.NONE; defines < 1; defines++) {
                for (int name = 3; name < 5; name++) {
                    ObjectLinker x = furnished(2);
                    x.symbol(0, 4, W.DATA, W.STRONG, W.NONE, 0);
                    int other = binding == W.LOCAL ? 0 : defines;
                    x.symbol(1, name, W.DATA, binding, other, 0);
                    boolean defined = name == 4 && binding != W.LOCAL && other == 0;
                    W.faulty("defined by binding " + binding, x, defined ? 0 : MISSING, defined ? W.NONE : 0);
                }
            }
        }
        ObjectLinker x = furnished(1);
        x.symbol(0, 4, W.DATA, W.WEAK, W.NONE, 0);
        W.linked("a weak one is not missed", x);
    }

    /** "Or a local one defines nothing": also if its name is defined. */
    private static void aLocalOneDefinesNothing() {
        for (int kind = 0; kind < 2; kind++) {
            ObjectLinker x = furnished(2);
            x.symbol(0, 4, kind, W.STRONG, 0, 0);
            x.symbol(1, 4, kind, W.LOCAL, 0, 0);
            W.linked("a local one that defines something", x);
            x.symbol(1, 4, kind, W.LOCAL, W.NONE, 0);
            W.faulty("a local one that defines nothing", x, MISSING, 101);
        }
    }

    /** "5 KIND: a symbol that is not local has another kind than the first one with its name that is not local." */
    private static void anotherKindThanTheFirst() {
        for (int first = 0; first < 3; first++) {
            for (int second = 0; second < 3; second++) {
                for (int kind = 0; kind < 2; kind++) {
                    ObjectLinker x = furnished(2);
                    x.symbol(0, 30, kind, first, 0, 0);
                    x.symbol(1, 30, 1 - kind, second, first == W.STRONG && second == W.STRONG ? W.NONE : 0, 0);
                    boolean joined = first != W.LOCAL && second != W.LOCAL;
                    W.faulty("kind " + kind + " and the other one", x, joined ? KIND : 0, joined ? 100 : W.NONE);
                }
            }
        }
    }

    /** "A NAME (0 .. 30)": the first and the last are joined like all others. */
    private static void everyNameIsJoined() {
        ObjectLinker x = furnished(6);
        for (int name = 0; name <= 30; name++) {
            x.symbol(name % 3, name, name % 2, W.STRONG, 0, 0);
            x.symbol(3 + name % 3, name, name % 2, W.STRONG, W.NONE, 0);
        }
        W.linked("every name", x);
        for (int name = 0; name <= 30; name++) {
            int due = name % 2 == 0 ? name % 3 : 16 + 8 * (name % 3);
            Check.same("name " + name, x.meant(3 + name % 3, name / 3, 0), due);
        }
    }

    /** A function with signature told calls a symbol that tells so; object 1 defines it with another one. */
    private static ObjectLinker caller(int told, int parameters, int results) {
        ObjectLinker x = W.objects(2);
        x.symbol(0, 9, W.FUNCTION, W.STRONG, W.NONE, told);
        x.function(0, 0, told % 2, 0);
        for (int i = 0; i < told / 2; i++) {
            x.code(0, 0, W.SIZE, 0);
        }
        x.code(0, 0, W.CALL, 0);
        x.function(1, parameters, results, 0);
        for (int i = 0; i < results; i++) {
            x.code(1, 0, W.SIZE, 0);
        }
        x.symbol(1, 9, W.FUNCTION, W.STRONG, 0, 0);
        return x;
    }

    /** "6 SIGNATURE: .. other parameters or results than the symbol tells (.. OFFSET / 2 and modulo 2 .., 0 .. 9)." */
    private static void otherParametersOrResults() {
        for (int told = 0; told < 10; told++) {
            for (int parameters = 0; parameters < 5; parameters++) {
                for (int results = 0; results < 2; results++) {
                    boolean same = told / 2 == parameters && told % 2 == results;
                    W.faulty("told " + told + " of " + parameters + ", " + results, caller(told, parameters, results),
                            same ? 0 : SIGNATURE, same ? W.NONE : told / 2);
                }
            }
        }
        ObjectLinker x = furnished(1);
        x.function(0, 4, 0, 0);
        x.symbol(0, 0, W.FUNCTION, W.LOCAL, 1, 0);
        W.append(x, 0, 0, W.SIZE, 0, W.SIZE, 0, W.SIZE, 0, W.SIZE, 0, W.CALL, 0);
        W.linked("one that defines one tells that one's", x);
    }

    /** "Of one of which nothing is meant, none." */
    private static void ofWhichNothingIsMeant() {
        for (int told = 0; told < 10; told++) {
            ObjectLinker x = W.objects(1);
            x.symbol(0, 9, W.FUNCTION, W.WEAK, W.NONE, told);
            x.symbol(0, 9, W.FUNCTION, W.WEAK, W.NONE, 9 - told);
            x.function(0, 0, 0, 0);
            W.append(x, 0, 0, W.RETURN, 0, W.CALL, 0, W.CALL, 1, W.DROP, 0);
            W.linked("told " + told + " of nothing", x);
        }
    }

    /** A CALL is looked at wherever it stands. */
    private static void callsThatNothingGetsTo() {
        ObjectLinker x = furnished(2);
        x.symbol(0, 9, W.FUNCTION, W.STRONG, W.NONE, 2);
        x.symbol(1, 9, W.FUNCTION, W.STRONG, 0, 0);
        W.append(x, 0, 0, W.RETURN, 0, W.CALL, 0);
        W.faulty("behind RETURN", x, SIGNATURE, 1);
    }

    /** "7 ROOM: the memory would have more than 1024 bytes. (0.)" */
    private static void moreThan1024Bytes() {
        for (int last = 47; last <= 49; last++) {
            ObjectLinker x = W.objects(4);
            for (int i = 0; i < 15; i++) {
                x.segment(i / 4, 64, 0);
            }
            x.segment(3, last, 0);
            W.faulty(16 + 15 * 64 + last + " bytes", x, last > 48 ? ROOM : 0, last > 48 ? 0 : W.NONE);
            if (last <= 48) {
                Check.same("the first address behind all segments", x.count(4), 16 + 15 * 64 + last);
            }
        }
        ObjectLinker most = W.objects(6);
        for (int i = 0; i < 24; i++) {
            most.segment(i / 4, 64, 4);
        }
        W.faulty("as many as there can be", most, ROOM, 0);
    }

    /** "Each at the next multiple of its alignment": what is left free takes room, too. */
    private static void moreThan1024BytesByAlignment() {
        for (int power = 0; power <= 4; power++) {
            ObjectLinker x = W.objects(4);
            for (int i = 0; i < 15; i++) {
                x.segment(i / 4, 64, 4);
            }
            x.segment(3, 33, 0);
            x.object();
            x.segment(4, 1, power);
            int address = new int[] {1009, 1010, 1012, 1016, 1024}[power];
            W.faulty("at " + address, x, address == 1024 ? ROOM : 0, address == 1024 ? 0 : W.NONE);
        }
    }

    /** "The first of these faults that there is": each later one waits for those before it. */
    private static void eachFaultBeforeTheNext() {
        for (int first = WORD; first <= ROOM; first++) {
            ObjectLinker x = W.objects(6);
            for (int fault = ROOM; fault >= first; fault--) {
                addFault(x, fault);
                Check.same("the first of " + fault + " to 7", x.link(), fault);
            }
        }
        for (int fault = WORD; fault <= ROOM; fault++) {
            for (int other = fault + 1; other <= ROOM; other++) {
                ObjectLinker x = W.objects(6);
                addFault(x, fault);
                addFault(x, other);
                Check.same(fault + " before " + other, x.link(), fault);
            }
        }
    }

    /** A fault that touches none of the others: the later the fault, the earlier its object. */
    private static void addFault(ObjectLinker x, int fault) {
        int object = Math.max(0, 6 - fault);
        switch (fault) {
            case WORD -> W.function(x, object, 0, 0, 0, W.BR, 31);
            case CODE -> W.function(x, object, 0, 0, 0, W.SIZE, 0);
            case DOUBLE -> {
                int number = x.function(object, 0, 0, 0);
                x.symbol(object, 3, W.FUNCTION, W.STRONG, number, 0);
                x.symbol(object, 3, W.FUNCTION, W.STRONG, number, 0);
            }
            case MISSING -> x.symbol(object, 4, W.FUNCTION, W.STRONG, W.NONE, 0);
            case KIND -> {
                x.symbol(object, 5, W.FUNCTION, W.WEAK, W.NONE, 0);
                x.symbol(object, 5, W.DATA, W.WEAK, W.NONE, 0);
            }
            case SIGNATURE -> {
                int number = x.function(object, 1, 0, 0);
                x.symbol(object, 6, W.FUNCTION, W.STRONG, number, 0);
                int symbol = x.symbol(object, 6, W.FUNCTION, W.WEAK, W.NONE, 0);
                W.function(x, object, 0, 0, 0, W.CALL, symbol);
            }
            default -> {
                for (int i = 0; i < 16; i++) {
                    x.segment(i / 4, 64, 0);
                }
            }
        }
    }

    // Promise 9

    /** "100 times the object, and the symbol." */
    private static void theGreatestSymbol() {
        for (int fault = DOUBLE; fault <= KIND; fault++) {
            ObjectLinker x = furnished(6);
            for (int i = 0; i < 15; i++) {
                x.symbol(5, 30, W.FUNCTION, i == 0 ? W.STRONG : W.WEAK, 0, 0);
            }
            W.linked("15 symbols", x);
            int name = fault == MISSING ? 29 : 30;
            int kind = fault == KIND ? W.DATA : W.FUNCTION;
            x.symbol(5, name, kind, fault == KIND ? W.WEAK : W.STRONG, fault == DOUBLE ? 0 : W.NONE, 0);
            W.faulty("the last symbol of the last object", x, fault, 515);
        }
    }

    /** "(Of several places the first object, then .. symbol)", whatever order they came in. */
    private static void theFirstOfSeveralSymbols() {
        ObjectLinker x = furnished(3);
        x.symbol(2, 1, W.FUNCTION, W.STRONG, 0, 0);
        x.symbol(2, 1, W.FUNCTION, W.STRONG, 0, 0);
        x.symbol(2, 1, W.FUNCTION, W.STRONG, 0, 0);
        W.faulty("the second of three", x, DOUBLE, 201);
        x.symbol(1, 1, W.FUNCTION, W.STRONG, 0, 0);
        W.faulty("one in an object before it", x, DOUBLE, 200);
        ObjectLinker y = furnished(3);
        y.symbol(2, 1, W.FUNCTION, W.STRONG, W.NONE, 0);
        y.symbol(1, 2, W.FUNCTION, W.WEAK, W.NONE, 0);
        y.symbol(1, 3, W.FUNCTION, W.LOCAL, W.NONE, 0);
        y.symbol(1, 1, W.FUNCTION, W.STRONG, W.NONE, 0);
        W.faulty("missing ones", y, MISSING, 101);
        ObjectLinker z = furnished(3);
        z.symbol(2, 1, W.FUNCTION, W.WEAK, W.NONE, 0);
        z.symbol(1, 1, W.DATA, W.WEAK, W.NONE, 0);
        z.symbol(1, 1, W.FUNCTION, W.WEAK, W.NONE, 0);
        W.faulty("the first one is the first object's", z, KIND, 101);
    }

    /** "NONE if .. there was none." */
    private static void placeOfNoLink() {
        ObjectLinker x = new ObjectLinker();
        Check.same("a new object", x.place(), W.NONE);
        x.object();
        x.symbol(0, 0, W.FUNCTION, W.STRONG, W.NONE, 0);
        Check.same("a fault that was not met yet", x.place(), W.NONE);
    }

    /** "Where the latest link() met its fault; NONE if it met none": changes leave it. */
    private static void placeOfTheLatestLink() {
        ObjectLinker x = furnished(2);
        x.symbol(1, 0, W.FUNCTION, W.STRONG, W.NONE, 0);
        W.faulty("missing", x, MISSING, 100);
        x.symbol(0, 0, W.FUNCTION, W.STRONG, 0, 0);
        Check.same("behind symbol()", x.place(), 100);
        x.code(0, 0, W.BLOCK, 0);
        Check.same("behind code()", x.place(), 100);
        W.faulty("another fault", x, CODE, 1);
        x.code(0, 0, W.END, 0);
        x.object();
        x.segment(2, 1, 0);
        x.fill(2, 0, 0, 1);
        x.function(2, 0, 0, 0);
        Check.same("behind all other changes", x.place(), 1);
        W.linked("no fault", x);
        x.code(0, 0, W.GET, 0);
        Check.same("behind a change that makes a fault", x.place(), W.NONE);
    }

    // Promise 12

    /** "There is no such thing": the object, the symbol, what. */
    private static void meantHasItsBounds() {
        ObjectLinker x = furnished(2);
        for (int i = 0; i < 16; i++) {
            x.symbol(1, i, i % 2, W.STRONG, 0, 0);
        }
        x.symbol(0, 0, W.FUNCTION, W.STRONG, W.NONE, 0);
        W.linked("17 symbols", x);
        Check.bounds("object", 0, 1, n -> x.meant(n, 0, 0));
        Check.bounds("symbol of 16", 0, 15, n -> x.meant(1, n, 0));
        Check.bounds("symbol of one", 0, 0, n -> x.meant(0, n, 1));
        Check.bounds("what", 0, 1, n -> x.meant(1, 15, n));
        x.object();
        Check.state("not linked", () -> x.meant(0, 0, 0));
        Check.argument("no symbol in the new object", () -> x.meant(2, 0, 0));
    }

    /** "What the strong symbol that is not local and has its name defines, else the first weak one that defines something." */
    private static void theStrongOneElseTheFirstWeakOne() {
        ObjectLinker x = furnished(6);
        x.symbol(3, 8, W.FUNCTION, W.WEAK, 0, 0);
        x.symbol(0, 8, W.FUNCTION, W.WEAK, W.NONE, 0);
        means("the only one that defines something", x, 3, 0, 3);
        x.symbol(2, 8, W.FUNCTION, W.WEAK, 0, 0);
        means("the first object's, though it came later", x, 2, 0, 2, 3);
        x.symbol(1, 8, W.FUNCTION, W.LOCAL, 0, 0);
        means("no local one", x, 2, 0, 2, 3);
        Check.same("but for itself", x.meant(1, 0, 0), 1);
        x.symbol(4, 8, W.FUNCTION, W.STRONG, W.NONE, 0);
        means("no strong one that defines nothing", x, 2, 0, 2, 3, 4);
        x.symbol(5, 8, W.FUNCTION, W.STRONG, 0, 0);
        means("the strong one, though it is the last", x, 5, 0, 2, 3, 4, 5);
        Check.same("but not for the local one", x.meant(1, 0, 0), 1);
    }

    private static void means(String what, ObjectLinker x, int due, int... objects) {
        W.linked(what, x);
        for (int object : objects) {
            Check.same(what + ": object " + object, x.meant(object, 0, 0), due);
        }
    }

    /** A local symbol means what it defines, and is meant by no other. */
    private static void localOnesAlone() {
        ObjectLinker x = furnished(2);
        x.symbol(0, 1, W.DATA, W.LOCAL, 0, 2);
        x.symbol(0, 1, W.DATA, W.LOCAL, 0, 3);
        x.symbol(1, 1, W.DATA, W.WEAK, W.NONE, 0);
        x.symbol(1, 1, W.DATA, W.LOCAL, 0, 4);
        W.linked("local ones", x);
        Check.same("the first", x.meant(0, 0, 0), 18);
        Check.same("the second", x.meant(0, 1, 0), 19);
        Check.same("none of them", x.meant(1, 0, 0), 0);
        Check.same("the third", x.meant(1, 1, 0), 28);
    }

    /** "(NONE for none)", "0 for none": "a function that is not there" has no slot. */
    private static void functionsThatAreNotThere() {
        ObjectLinker x = W.objects(2);
        x.symbol(0, 1, W.FUNCTION, W.WEAK, W.NONE, 0);
        x.symbol(0, 2, W.FUNCTION, W.WEAK, W.NONE, 9);
        x.symbol(1, 1, W.FUNCTION, W.WEAK, W.NONE, 3);
        W.function(x, 0, 0, 1, 0, W.SLOT, 0);
        W.linked("not there", x);
        for (int symbol = 0; symbol < 2; symbol++) {
            Check.same("its number", x.meant(0, symbol, 0), W.NONE);
            Check.same("its slot", x.meant(0, symbol, 1), 0);
        }
        Check.same("its number in the other object", x.meant(1, 0, 0), W.NONE);
        Check.same("no slots", x.count(3), 0);
    }

    /** "Data at address 0"; "(of data 0)". */
    private static void dataAtAddress0() {
        ObjectLinker x = furnished(1);
        x.symbol(0, 1, W.DATA, W.WEAK, W.NONE, 0);
        x.symbol(0, 2, W.DATA, W.WEAK, 0, 0);
        x.symbol(0, 3, W.DATA, W.LOCAL, 0, 8);
        W.linked("data", x);
        Check.same("nothing", x.meant(0, 0, 0), 0);
        Check.same("the first byte", x.meant(0, 1, 0), 16);
        Check.same("behind the last byte", x.meant(0, 2, 0), 24);
        for (int symbol = 0; symbol < 3; symbol++) {
            Check.same("no slot", x.meant(0, symbol, 1), 0);
        }
    }

    /** "An OFFSET in it (0 .. its size)": up to the address behind the memory. */
    private static void offsetsUpToTheSize() {
        ObjectLinker x = W.objects(4);
        for (int i = 0; i < 15; i++) {
            x.segment(i / 4, 64, 0);
        }
        x.segment(3, 48, 0);
        x.symbol(3, 0, W.DATA, W.STRONG, 3, 0);
        x.symbol(3, 1, W.DATA, W.STRONG, 3, 47);
        x.symbol(3, 2, W.DATA, W.STRONG, 3, 48);
        x.symbol(3, 3, W.DATA, W.STRONG, 2, 64);
        W.linked("a full memory", x);
        Check.same("its first byte", x.meant(3, 0, 0), 976);
        Check.same("the memory's last byte", x.meant(3, 1, 0), 1023);
        Check.same("behind the memory", x.meant(3, 2, 0), 1024);
        Check.same("the next one's first byte", x.meant(3, 3, 0), 976);
    }

    /** "One behind the other .. from address 16 on, each at the next multiple of its alignment." */
    private static void theNextMultipleOfItsAlignment() {
        for (int power = 0; power <= 4; power++) {
            for (int before = 1; before <= 33; before++) {
                ObjectLinker x = W.objects(2);
                x.segment(0, before, power);
                x.segment(1, 5, power);
                x.symbol(0, 0, W.DATA, W.STRONG, 0, 0);
                x.symbol(1, 1, W.DATA, W.STRONG, 0, 0);
                W.linked("two segments", x);
                int due = 16 + before;
                while (due % (1 << power) != 0) {
                    due++;
                }
                Check.same("the first", x.meant(0, 0, 0), 16);
                Check.same("behind " + before + " with " + power, x.meant(1, 0, 0), due);
                Check.same("the end", x.count(4), due + 5);
            }
        }
    }

    /** "1, 2, .. for functions in the order in which a SLOT word means them first (by objects, functions, places)." */
    private static void slotsInTheirOrder() {
        ObjectLinker x = W.objects(6);
        for (int object = 5; object >= 0; object--) {
            for (int i = 0; i < 8; i++) {
                x.function(object, 0, 0, 0);
                x.symbol(object, i, W.FUNCTION, W.LOCAL, i, 0);
            }
        }
        for (int object = 5; object >= 0; object--) {
            for (int i = 0; i < 8; i++) {
                W.append(x, object, i, W.SLOT, 7 - i, W.DROP, 0);
            }
        }
        W.linked("48 slots", x);
        Check.same("how many", x.count(3), 48);
        for (int object = 0; object < 6; object++) {
            for (int i = 0; i < 8; i++) {
                Check.same("the function", x.meant(object, i, 0), 8 * object + i);
                Check.same("its slot", x.meant(object, i, 1), 8 * object + 8 - i);
            }
        }
    }

    /** "Of a function that is not there it is 0": and of one that no SLOT word means. */
    private static void slotsOfNothing() {
        ObjectLinker x = furnished(2);
        x.symbol(0, 0, W.FUNCTION, W.STRONG, 0, 0);
        x.symbol(0, 1, W.FUNCTION, W.WEAK, W.NONE, 0);
        x.symbol(0, 2, W.FUNCTION, W.STRONG, W.NONE, 0);
        x.symbol(1, 2, W.FUNCTION, W.STRONG, 0, 0);
        W.append(x, 0, 0, W.CALL, 0, W.SLOT, 1, W.DROP, 0, W.SLOT, 2, W.DROP, 0, W.SLOT, 2, W.DROP, 0);
        W.linked("one slot", x);
        Check.same("a function that no SLOT word means", x.meant(0, 0, 1), 0);
        Check.same("a function that is not there", x.meant(0, 1, 1), 0);
        Check.same("the other object's function", x.meant(0, 2, 1), 1);
        Check.same("by its own symbol", x.meant(1, 0, 1), 1);
        Check.same("one slot, though it is meant twice", x.count(3), 1);
    }
}
