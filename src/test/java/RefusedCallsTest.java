/**
 * "Of several exceptions the one named first is thrown; a call that throws changes nothing": each call that can
 * throw, in each state, on one of two linkers that were made alike and must answer alike behind it.
 */
public final class RefusedCallsTest {
    private static final String ARGUMENT = "IllegalArgumentException";
    private static final String STATE = "IllegalStateException";

    /** How far a linker has come. */
    private enum Stage {
        NEW, BUILT, LINKED, RUN, CHANGED, FAULTY, FULL;

        boolean isLinked() {
            return this == LINKED || this == RUN || this == FULL;
        }
    }

    private interface Call {
        long of(ObjectLinker x);
    }

    public static void main(String[] args) {
        stagesAreWhatTheirNamesTell();
        for (Stage stage : Stage.values()) {
            wrongNumbersOfFunctions(stage);
            wrongNumbersOfCode(stage);
            wrongNumbersOfSegments(stage);
            wrongNumbersOfSymbols(stage);
            wrongNumbersOfQuestions(stage);
            wrongNumbersOfRuns(stage);
            nothingIsLinked(stage);
        }
        thereIsNoRoom();
        thereAreNoObjects();
        Check.end();
    }

    // Two functions, two segments and three symbols in object 0; object 1 is empty.
    private static ObjectLinker make(Stage stage) {
        ObjectLinker x = new ObjectLinker();
        if (stage == Stage.NEW) {
            return x;
        }
        x.object();
        x.object();
        W.function(x, 0, 2, 1, 1, W.GET, 0, W.GET, 1, W.STORE, 40, W.SLOT, 0, W.ADDRESS, 1, W.ADD, 0);
        x.function(0, 0, 0, 0);
        x.segment(0, 8, 3);
        x.segment(0, 5, 0);
        x.fill(0, 0, 3, 0x123456789L);
        x.symbol(0, 0, W.FUNCTION, W.STRONG, 1, 0);
        x.symbol(0, 1, W.DATA, W.LOCAL, 1, 5);
        x.symbol(0, 2, W.FUNCTION, W.WEAK, W.NONE, 9);
        if (stage == Stage.FULL) {
            fillUp(x);
        }
        if (stage != Stage.BUILT) {
            x.link();
        }
        if (stage != Stage.BUILT && stage != Stage.LINKED) {
            x.run(0, 0, 5, -7, 100);
        }
        if (stage == Stage.CHANGED || stage == Stage.FAULTY) {
            x.symbol(1, 3, W.DATA, W.STRONG, W.NONE, 0);
        }
        if (stage == Stage.FAULTY) {
            x.link();
        }
        return x;
    }

    private static void stagesAreWhatTheirNamesTell() {
        for (Stage stage : Stage.values()) {
            ObjectLinker x = make(stage);
            Check.same(stage + " has a fault", x.place(), stage == Stage.FAULTY ? 100 : W.NONE);
            Check.same(stage + " was run", x.told(2), stage.ordinal() >= Stage.RUN.ordinal() ? 1 : 0);
            Check.text(stage + " is linked", Check.outcome(() -> x.count(3)), stage.isLinked() ? "1" : STATE);
        }
    }

    private static void fillUp(ObjectLinker x) {
        for (int i = 2; i < 6; i++) {
            x.object();
        }
        for (int i = 2; i < 8; i++) {
            x.function(0, 0, 0, 0);
        }
        for (int i = 6; i < 60; i++) {
            x.code(0, 0, i == 6 ? W.RETURN : i % 2 == 0 ? W.DROP : W.SIZE, 0);
        }
        x.segment(0, 1, 0);
        x.segment(0, 1, 0);
        for (int i = 3; i < 16; i++) {
            x.symbol(0, i, W.FUNCTION, W.WEAK, W.NONE, 0);
        }
    }

    /** The call throws this, and the linker answers then as one that was never asked. */
    private static void refused(Stage stage, String what, String due, Call call) {
        ObjectLinker x = make(stage);
        ObjectLinker twin = make(stage);
        Check.text(stage + ": " + what, Check.outcome(() -> call.of(x)), due);
        Check.text(stage + ": " + what + " again", Check.outcome(() -> call.of(x)), due);
        Check.text(stage + ": what is seen behind " + what, seen(x), seen(twin));
        Check.text(stage + ": how it goes on behind " + what, later(x), later(twin));
    }

    private static String seen(ObjectLinker x) {
        StringBuilder text = new StringBuilder();
        tell(text, x, y -> y.place());
        for (int what = 0; what < 5; what++) {
            int asked = what;
            tell(text, x, y -> y.count(asked));
            tell(text, x, y -> y.meant(0, asked / 2, asked % 2));
            tell(text, x, y -> y.told(asked % 3));
        }
        for (int address = 14; address < 56; address++) {
            int asked = address;
            tell(text, x, y -> y.memory(asked));
        }
        text.append(" the module ").append(text.indexOf(STATE) < 0 ? W.bytes(x) : "is not there");
        return text.toString();
    }

    /** What the linker answers when it is changed, linked and run. */
    private static String later(ObjectLinker x) {
        StringBuilder text = new StringBuilder();
        tell(text, x, y -> y.object());
        tell(text, x, y -> y.function(0, 1, 0, 2));
        tell(text, x, y -> y.code(0, 1, W.RETURN, 0));
        tell(text, x, y -> y.segment(0, 6, 2));
        tell(text, x, y -> W.fill(y, 0, 1, 2, 0x7766554433221100L));
        tell(text, x, y -> y.symbol(0, 3, W.DATA, W.STRONG, 0, 4));
        tell(text, x, y -> y.link());
        tell(text, x, y -> y.run(0, 0, 4, 1, 50));
        return text.append(seen(x)).toString();
    }

    private static void tell(StringBuilder text, ObjectLinker x, Call call) {
        text.append(Check.outcome(() -> call.of(x))).append(' ');
    }

    // Illegal argument is named first, so it comes whatever is linked, and whether there is room or not.

    private static void wrongNumbersOfFunctions(Stage stage) {
        refused(stage, "function of object -1", ARGUMENT, x -> x.function(-1, 0, 0, 0));
        refused(stage, "function of object 6", ARGUMENT, x -> x.function(6, 0, 0, 0));
        refused(stage, "function with -1 parameters", ARGUMENT, x -> x.function(0, -1, 0, 0));
        refused(stage, "function with 5 parameters", ARGUMENT, x -> x.function(0, 5, 0, 0));
        refused(stage, "function with -1 results", ARGUMENT, x -> x.function(0, 0, -1, 0));
        refused(stage, "function with 2 results", ARGUMENT, x -> x.function(0, 0, 2, 0));
        refused(stage, "function with -1 locals", ARGUMENT, x -> x.function(0, 0, 0, -1));
        refused(stage, "function with 5 locals", ARGUMENT, x -> x.function(0, 0, 0, 5));
    }

    private static void wrongNumbersOfCode(Stage stage) {
        refused(stage, "code of object -1", ARGUMENT, x -> x.code(-1, 0, 0, 0));
        refused(stage, "code of object 6", ARGUMENT, x -> x.code(6, 0, 0, 0));
        refused(stage, "code of function -1", ARGUMENT, x -> x.code(0, -1, 0, 0));
        refused(stage, "code of function 8", ARGUMENT, x -> x.code(0, 8, 0, 0));
        refused(stage, "code of an empty object", ARGUMENT, x -> x.code(1, 0, 0, 0));
        refused(stage, "word -1", ARGUMENT, x -> x.code(0, 0, -1, 0));
        refused(stage, "word 36", ARGUMENT, x -> x.code(0, 0, 36, 0));
    }

    private static void wrongNumbersOfSegments(Stage stage) {
        refused(stage, "segment of object -1", ARGUMENT, x -> x.segment(-1, 1, 0));
        refused(stage, "segment of object 6", ARGUMENT, x -> x.segment(6, 1, 0));
        refused(stage, "segment of 0 bytes", ARGUMENT, x -> x.segment(0, 0, 0));
        refused(stage, "segment of 65 bytes", ARGUMENT, x -> x.segment(0, 65, 0));
        refused(stage, "power -1", ARGUMENT, x -> x.segment(0, 1, -1));
        refused(stage, "power 5", ARGUMENT, x -> x.segment(0, 1, 5));
        refused(stage, "fill of object -1", ARGUMENT, x -> W.fill(x, -1, 0, 0, -1));
        refused(stage, "fill of object 6", ARGUMENT, x -> W.fill(x, 6, 0, 0, -1));
        refused(stage, "fill of segment -1", ARGUMENT, x -> W.fill(x, 0, -1, 0, -1));
        refused(stage, "fill of segment 4", ARGUMENT, x -> W.fill(x, 0, 4, 0, -1));
        refused(stage, "fill of an empty object", ARGUMENT, x -> W.fill(x, 1, 0, 0, -1));
        refused(stage, "fill of byte -1", ARGUMENT, x -> W.fill(x, 0, 1, -1, -1));
        refused(stage, "fill of byte 5 of 5", ARGUMENT, x -> W.fill(x, 0, 1, 5, -1));
    }

    private static void wrongNumbersOfSymbols(Stage stage) {
        refused(stage, "symbol of object -1", ARGUMENT, x -> x.symbol(-1, 0, 0, 1, W.NONE, 0));
        refused(stage, "symbol of object 6", ARGUMENT, x -> x.symbol(6, 0, 0, 1, W.NONE, 0));
        refused(stage, "name -1", ARGUMENT, x -> x.symbol(0, -1, 0, 1, W.NONE, 0));
        refused(stage, "name 31", ARGUMENT, x -> x.symbol(0, 31, 0, 1, W.NONE, 0));
        refused(stage, "kind -1", ARGUMENT, x -> x.symbol(0, 0, -1, 1, W.NONE, 0));
        refused(stage, "kind 2", ARGUMENT, x -> x.symbol(0, 0, 2, 1, W.NONE, 0));
        refused(stage, "binding -1", ARGUMENT, x -> x.symbol(0, 0, 0, -1, W.NONE, 0));
        refused(stage, "binding 3", ARGUMENT, x -> x.symbol(0, 0, 0, 3, W.NONE, 0));
        refused(stage, "symbol of function -2", ARGUMENT, x -> x.symbol(0, 0, W.FUNCTION, 1, -2, 0));
        refused(stage, "symbol of function 8", ARGUMENT, x -> x.symbol(0, 0, W.FUNCTION, 1, 8, 0));
        refused(stage, "symbol of segment -2", ARGUMENT, x -> x.symbol(0, 0, W.DATA, 1, -2, 0));
        refused(stage, "symbol of segment 4", ARGUMENT, x -> x.symbol(0, 0, W.DATA, 1, 4, 0));
        refused(stage, "an empty object's function", ARGUMENT, x -> x.symbol(1, 0, W.FUNCTION, 1, 0, 0));
        refused(stage, "offset of a function", ARGUMENT, x -> x.symbol(0, 0, W.FUNCTION, 1, 0, 1));
        refused(stage, "10 told", ARGUMENT, x -> x.symbol(0, 0, W.FUNCTION, 1, W.NONE, 10));
        refused(stage, "offset 6 of 5", ARGUMENT, x -> x.symbol(0, 0, W.DATA, 1, 1, 6));
        refused(stage, "offset -1", ARGUMENT, x -> x.symbol(0, 0, W.DATA, 1, 1, -1));
        refused(stage, "offset of no data", ARGUMENT, x -> x.symbol(0, 0, W.DATA, 1, W.NONE, 1));
    }

    private static void wrongNumbersOfQuestions(Stage stage) {
        refused(stage, "count(-1)", ARGUMENT, x -> x.count(-1));
        refused(stage, "count(5)", ARGUMENT, x -> x.count(5));
        refused(stage, "byteAt(-1)", ARGUMENT, x -> x.byteAt(-1));
        if (stage.isLinked()) {
            refused(stage, "byteAt of the byte behind the last", ARGUMENT, x -> x.byteAt(x.count(0)));
        }
        refused(stage, "meant of object -1", ARGUMENT, x -> x.meant(-1, 0, 0));
        refused(stage, "meant of object 6", ARGUMENT, x -> x.meant(6, 0, 0));
        refused(stage, "meant of symbol -1", ARGUMENT, x -> x.meant(0, -1, 0));
        refused(stage, "meant of symbol 16", ARGUMENT, x -> x.meant(0, 16, 0));
        refused(stage, "meant with what -1", ARGUMENT, x -> x.meant(0, 0, -1));
        refused(stage, "meant with what 2", ARGUMENT, x -> x.meant(0, 0, 2));
        refused(stage, "told(-1)", ARGUMENT, x -> x.told(-1));
        refused(stage, "told(3)", ARGUMENT, x -> x.told(3));
        refused(stage, "memory(-1)", ARGUMENT, x -> x.memory(-1));
        refused(stage, "memory(1024)", ARGUMENT, x -> x.memory(1024));
    }

    private static void wrongNumbersOfRuns(Stage stage) {
        refused(stage, "run of object -1", ARGUMENT, x -> x.run(-1, 0, 1, 1, 9));
        refused(stage, "run of object 6", ARGUMENT, x -> x.run(6, 0, 1, 1, 9));
        refused(stage, "run of function -1", ARGUMENT, x -> x.run(0, -1, 1, 1, 9));
        refused(stage, "run of function 8", ARGUMENT, x -> x.run(0, 8, 1, 1, 9));
        refused(stage, "run of an empty object", ARGUMENT, x -> x.run(1, 0, 1, 1, 9));
        refused(stage, "run with fuel -1", ARGUMENT, x -> x.run(0, 0, 1, 1, -1));
        refused(stage, "run with fuel 2001", ARGUMENT, x -> x.run(0, 0, 1, 1, 2001));
    }

    private static void nothingIsLinked(Stage stage) {
        if (stage.isLinked()) {
            return;
        }
        for (int what = 0; what < 5; what++) {
            int asked = what;
            refused(stage, "count(" + what + ")", STATE, x -> x.count(asked));
        }
        refused(stage, "byteAt(0)", STATE, x -> x.byteAt(0));
        if (stage != Stage.NEW) {
            refused(stage, "meant", STATE, x -> x.meant(0, 0, 0));
            refused(stage, "run", STATE, x -> x.run(0, 0, 1, 1, 9));
            refused(stage, "run without fuel", STATE, x -> x.run(0, 1, 1, 1, 0));
        }
    }

    private static void thereIsNoRoom() {
        refused(Stage.FULL, "object", STATE, x -> x.object());
        refused(Stage.FULL, "function", STATE, x -> x.function(0, 0, 0, 0));
        refused(Stage.FULL, "code", STATE, x -> x.code(0, 0, W.RETURN, 0));
        refused(Stage.FULL, "segment", STATE, x -> x.segment(0, 1, 0));
        refused(Stage.FULL, "symbol", STATE, x -> x.symbol(0, 0, W.FUNCTION, W.WEAK, W.NONE, 0));
    }

    private static void thereAreNoObjects() {
        refused(Stage.NEW, "link", STATE, x -> x.link());
    }
}
