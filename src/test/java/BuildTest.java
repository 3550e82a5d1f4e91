/** Promises 1 to 7: a new object, and what is put into it. */
public final class BuildTest {
    public static void main(String[] args) {
        aNewObject();
        objects();
        functions();
        codes();
        segments();
        fills();
        symbols();
        symbolOffsets();
        whatUnlinks();
        whatThrowsChangesNothing();
        Check.end();
    }

    private static void aNewObject() {
        ObjectLinker x = new ObjectLinker();
        Check.state("link of nothing", x::link);
        Check.same("place of no link", x.place(), W.NONE);
        Check.argument("function of no object", () -> x.function(0, 0, 0, 0));
        Check.argument("segment of no object", () -> x.segment(0, 1, 0));
        Check.argument("symbol of no object", () -> x.symbol(0, 0, 0, 0, W.NONE, 0));
        Check.argument("code of no object", () -> x.code(0, 0, 0, 0));
        Check.argument("fill of no object", () -> W.fill(x, 0, 0, 0, 0));
        Check.argument("meant of no object", () -> x.meant(0, 0, 0));
        Check.argument("run of no object", () -> x.run(0, 0, 0, 0, 0));
        Check.state("count", () -> x.count(0));
        Check.state("byteAt", () -> x.byteAt(0));
        for (int what = 0; what < 3; what++) {
            Check.same("told", x.told(what), 0);
        }
        for (int address = 0; address < 1024; address++) {
            Check.same("memory", x.memory(address), 0);
        }
    }

    private static void objects() {
        ObjectLinker x = new ObjectLinker();
        for (int i = 0; i < 6; i++) {
            Check.same("object", x.object(), i);
        }
        Check.state("a seventh object", x::object);
        Check.state("a seventh object again", x::object);
        Check.argument("object 6", () -> x.function(6, 0, 0, 0));
        Check.argument("object -1", () -> x.function(-1, 0, 0, 0));
        Check.same("a function of object 5", x.function(5, 0, 0, 0), 0);
    }

    private static void functions() {
        ObjectLinker x = W.objects(2);
        Check.argument("parameters -1", () -> x.function(0, -1, 0, 0));
        Check.argument("parameters 5", () -> x.function(0, 5, 0, 0));
        Check.argument("results -1", () -> x.function(0, 0, -1, 0));
        Check.argument("results 2", () -> x.function(0, 0, 2, 0));
        Check.argument("locals -1", () -> x.function(0, 0, 0, -1));
        Check.argument("locals 5", () -> x.function(0, 0, 0, 5));
        Check.argument("object 2", () -> x.function(2, 0, 0, 0));
        for (int i = 0; i < 8; i++) {
            Check.same("function", x.function(1, 4, 1, 4), i);
        }
        Check.state("a ninth function", () -> x.function(1, 0, 0, 0));
        Check.argument("a ninth function that is wrong", () -> x.function(1, 0, 0, 5));
        Check.same("the other object's first", x.function(0, 0, 0, 0), 0);
    }

    private static void codes() {
        ObjectLinker x = W.objects(1);
        x.function(0, 0, 0, 0);
        x.function(0, 0, 0, 0);
        Check.argument("word -1", () -> x.code(0, 1, -1, 0));
        Check.argument("word 36", () -> x.code(0, 1, 36, 0));
        Check.argument("function 2", () -> x.code(0, 2, 0, 0));
        Check.argument("function -1", () -> x.code(0, -1, 0, 0));
        Check.argument("object 1", () -> x.code(1, 0, 0, 0));
        Check.same("any number will do", x.code(0, 1, W.GET, Integer.MIN_VALUE), 0);
        Check.same("the last word", x.code(0, 1, W.SIZE, Integer.MAX_VALUE), 1);
        for (int i = 2; i < 60; i++) {
            Check.same("place", x.code(0, 1, i % 36, i), i);
        }
        Check.state("word 60", () -> x.code(0, 1, 0, 0));
        Check.argument("word 60 that is wrong", () -> x.code(0, 1, 36, 0));
        Check.same("the other function's first", x.code(0, 0, 0, 0), 0);
    }

    private static void segments() {
        ObjectLinker x = W.objects(2);
        Check.argument("size 0", () -> x.segment(0, 0, 0));
        Check.argument("size 65", () -> x.segment(0, 65, 0));
        Check.argument("power -1", () -> x.segment(0, 1, -1));
        Check.argument("power 5", () -> x.segment(0, 1, 5));
        Check.argument("object 2", () -> x.segment(2, 1, 0));
        for (int i = 0; i < 4; i++) {
            Check.same("segment", x.segment(1, i == 0 ? 1 : 64, i == 0 ? 0 : 4), i);
        }
        Check.state("a fifth segment", () -> x.segment(1, 1, 0));
        Check.argument("a fifth segment that is wrong", () -> x.segment(1, 1, 5));
        Check.same("the other object's first", x.segment(0, 1, 0), 0);
    }

    private static void fills() {
        ObjectLinker x = W.single(0, 0, 0);
        x.segment(0, 10, 0);
        x.segment(0, 64, 0);
        x.fill(0, 0, 1, 0x8877665544332211L);
        x.fill(0, 0, 8, -1);
        x.fill(0, 1, 0, 7);
        x.fill(0, 1, 63, 0x1ff);
        Check.argument("byte 10 of 10", () -> W.fill(x, 0, 0, 10, 1));
        Check.argument("byte -1", () -> W.fill(x, 0, 0, -1, 1));
        Check.argument("byte 64", () -> W.fill(x, 0, 1, 64, 1));
        Check.argument("segment 2", () -> W.fill(x, 0, 2, 0, 1));
        Check.argument("segment -1", () -> W.fill(x, 0, -1, 0, 1));
        Check.argument("object 1", () -> W.fill(x, 1, 0, 0, 1));
        W.linked("fills", x);
        x.run(0, 0, 0, 0, 0);
        int[] due = {0, 0x11, 0x22, 0x33, 0x44, 0x55, 0x66, 0x77, 255, 255, 7, 0, 0};
        for (int i = 0; i < due.length; i++) {
            Check.same("byte " + i, x.memory(16 + i), due[i]);
        }
        Check.same("the second one's last", x.memory(26 + 63), 255);
        Check.same("behind it", x.memory(26 + 64), 0);
        x.fill(0, 0, 0, 0);
        x.link();
        Check.same("the memory of the run stays", x.memory(17), 0x11);
        x.run(0, 0, 0, 0, 0);
        Check.same("filled with 0", x.memory(17), 0);
        Check.same("filled no farther than 8", x.memory(24), 255);
        x.fill(0, 1, 2, -1);
        x.link();
        x.run(0, 0, 0, 0, 0);
        for (int i = 1; i < 12; i++) {
            Check.same("byte " + i + " of 8 from 2 on", x.memory(26 + i), i >= 2 && i < 10 ? 255 : 0);
        }
    }

    private static void symbols() {
        ObjectLinker x = W.objects(2);
        x.function(0, 0, 0, 0);
        x.segment(0, 8, 0);
        Check.argument("name -1", () -> x.symbol(0, -1, 0, 0, W.NONE, 0));
        Check.argument("name 31", () -> x.symbol(0, 31, 0, 0, W.NONE, 0));
        Check.argument("kind -1", () -> x.symbol(0, 0, -1, 0, W.NONE, 0));
        Check.argument("kind 2", () -> x.symbol(0, 0, 2, 0, W.NONE, 0));
        Check.argument("binding -1", () -> x.symbol(0, 0, 0, -1, W.NONE, 0));
        Check.argument("binding 3", () -> x.symbol(0, 0, 0, 3, W.NONE, 0));
        Check.argument("function -2", () -> x.symbol(0, 0, 0, 0, -2, 0));
        Check.argument("function 1", () -> x.symbol(0, 0, W.FUNCTION, 0, 1, 0));
        Check.argument("segment 1", () -> x.symbol(0, 0, W.DATA, 0, 1, 0));
        Check.argument("object 2", () -> x.symbol(2, 0, 0, 0, W.NONE, 0));
        Check.argument("another object's function", () -> x.symbol(1, 0, W.FUNCTION, 0, 0, 0));
        Check.argument("another object's segment", () -> x.symbol(1, 0, W.DATA, 0, 0, 0));
        for (int i = 0; i < 16; i++) {
            Check.same("symbol", x.symbol(0, 15 + i, i % 2, i % 3, 0, 0), i);
        }
        Check.state("symbol 16", () -> x.symbol(0, 0, 0, 0, W.NONE, 0));
        Check.argument("symbol 16 that is wrong", () -> x.symbol(0, 31, 0, 0, W.NONE, 0));
        Check.same("the other object's first", x.symbol(1, 0, 0, 1, W.NONE, 0), 0);
    }

    private static void symbolOffsets() {
        ObjectLinker x = W.objects(1);
        x.function(0, 0, 0, 0);
        x.segment(0, 8, 0);
        Check.argument("offset -1", () -> x.symbol(0, 0, W.DATA, 0, 0, -1));
        Check.argument("offset 9 of 8", () -> x.symbol(0, 0, W.DATA, 0, 0, 9));
        Check.same("offset 8 of 8", x.symbol(0, 0, W.DATA, 0, 0, 8), 0);
        Check.argument("offset of no data", () -> x.symbol(0, 0, W.DATA, 0, W.NONE, 1));
        Check.same("offset 0 of no data", x.symbol(0, 0, W.DATA, 0, W.NONE, 0), 1);
        Check.argument("offset of a function", () -> x.symbol(0, 0, W.FUNCTION, 0, 0, 1));
        Check.same("offset 0 of a function", x.symbol(0, 0, W.FUNCTION, 0, 0, 0), 2);
        Check.argument("-1 told of a function", () -> x.symbol(0, 0, W.FUNCTION, 0, W.NONE, -1));
        Check.argument("10 told of a function", () -> x.symbol(0, 0, W.FUNCTION, 0, W.NONE, 10));
        Check.same("9 told of a function", x.symbol(0, 0, W.FUNCTION, 0, W.NONE, 9), 3);
    }

    private static ObjectLinker linkedOne() {
        ObjectLinker x = W.single(0, 0, 0);
        x.segment(0, 8, 0);
        x.symbol(0, 0, W.DATA, W.STRONG, 0, 0);
        W.linked("one", x);
        Check.same("is linked", x.count(1), 1);
        return x;
    }

    private static void whatUnlinks() {
        for (int call = 0; call < 6; call++) {
            ObjectLinker x = linkedOne();
            switch (call) {
                case 0 -> x.object();
                case 1 -> x.function(0, 0, 0, 0);
                case 2 -> x.code(0, 0, W.RETURN, 0);
                case 3 -> x.segment(0, 1, 0);
                case 4 -> x.fill(0, 0, 0, 0);
                default -> x.symbol(0, 1, W.DATA, W.WEAK, W.NONE, 0);
            }
            Check.state("count behind call " + call, () -> x.count(0));
            Check.state("byteAt behind call " + call, () -> x.byteAt(0));
            Check.state("meant behind call " + call, () -> x.meant(0, 0, 0));
            Check.state("run behind call " + call, () -> x.run(0, 0, 0, 0, 9));
            W.linked("again behind call " + call, x);
            Check.same("is linked again", x.count(1), call == 1 ? 2 : 1);
        }
    }

    private static void whatThrowsChangesNothing() {
        ObjectLinker x = linkedOne();
        String before = W.bytes(x);
        Check.argument("function", () -> x.function(0, 5, 0, 0));
        Check.argument("code", () -> x.code(0, 0, 36, 0));
        Check.argument("segment", () -> x.segment(0, 0, 0));
        Check.argument("fill", () -> W.fill(x, 0, 0, 8, -1));
        Check.argument("symbol", () -> x.symbol(0, 31, 0, 0, W.NONE, 0));
        Check.same("is still linked", x.count(1), 1);
        Check.same("its bytes are the same", W.bytes(x).equals(before) ? 1 : 0, 1);
        Check.same("the next function", x.function(0, 0, 0, 0), 1);
        Check.same("the next word", x.code(0, 0, W.RETURN, 0), 0);
        Check.same("the next segment", x.segment(0, 1, 0), 1);
        Check.same("the next symbol", x.symbol(0, 1, 0, 1, W.NONE, 0), 1);
        fullOnesStayLinked();
    }

    private static void fullOnesStayLinked() {
        ObjectLinker x = W.objects(6);
        for (int i = 0; i < 8; i++) {
            x.function(0, 0, 0, 0);
        }
        for (int i = 0; i < 60; i++) {
            x.code(0, 0, W.RETURN, 0);
        }
        for (int i = 0; i < 4; i++) {
            x.segment(0, 1, 0);
        }
        for (int i = 0; i < 16; i++) {
            x.symbol(0, i, 0, W.WEAK, W.NONE, 0);
        }
        W.linked("full", x);
        Check.state("object", x::object);
        Check.state("function", () -> x.function(0, 0, 0, 0));
        Check.state("code", () -> x.code(0, 0, 0, 0));
        Check.state("segment", () -> x.segment(0, 1, 0));
        Check.state("symbol", () -> x.symbol(0, 0, 0, 0, W.NONE, 0));
        Check.same("is still linked", x.count(1), 8);
    }
}
