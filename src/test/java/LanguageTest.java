import java.io.IOException;
import java.nio.file.Files;
import java.nio.file.Path;
import java.util.List;
import java.util.Set;
import java.util.TreeSet;

/** ObjectLinker.java keeps to the rules of ../shared/LANGUAGE.md that Rules looks at. */
public final class LanguageTest {
    public static void main(String[] args) throws IOException {
        String source = Files.readString(Path.of("src/main/java/ObjectLinker.java"));
        List<String> broken = Rules.broken(source);
        Check.text("rules that are broken", String.join("\n ", broken), "");
        theRulesCanBeBroken();
        limits();
        Check.end();
    }

    /** Else the check above would say nothing. */
    private static void theRulesCanBeBroken() {
        breaks("", "int a;");
        breaks("", "private int a(int b) { return b > 0 ? Math.max(b, 2) : 0; }");
        breaks("1", "private int link() { return 0; }");
        breaks("1", "public static final class A { }");
        breaks("2", "private final class A { }");
        breaks("2 3", "private int a() { java.util.function.IntUnaryOperator b = c -> c; return 0; }");
        breaks("2 3", "private int a() { java.util.function.IntUnaryOperator b = Math::abs; return 0; }");
        breaks("3", "private final long[][][] a = null;");
        breaks("3", "private final java.util.Map<String, Integer> a = null;");
        breaks("4", "private int a(String b) { return b.hashCode(); }");
        breaks("4", "private long a() { return System.nanoTime(); }");
        breaks("4", "private int a(int b) { return Math.addExact(b, b); }");
        breaks("4", "private int a(String b) { return Integer.parseInt(b); }");
        breaks("5", "private static int a = 0;");
        breaks("5", "private static final int[] A = new int[3];");
        breaks("5", "private static final int[] A = {1}; private void b() { A[0] = 2; }");
        breaks("5", "private static final int[] A = {1}; private void b() { A[0]++; }");
        breaks("5", "static { }");
        breaks("4 6", "private void a() { throw new java.util.ConcurrentModificationException(); }");
        breaks("6", "private ObjectLinker(int a) { throw new IllegalStateException(); }");
        breaks("6", "private void a(String b) { throw new IllegalStateException(b); }");
        breaks("3 6", "private void a() { try { b(); } catch (RuntimeException e) { } } private void b() { }");
        breaks("6", "private void a(int b) { assert b > 0; }");
        breaks("8", "private int a(int b) { return b < 1 ? 0 : a(b - 1); }");
        breaks("9", "private void a() { for (;;) { } }");
        breaks("9", "private void a() { while (true) { } }");
        breaks("10", "private String a(String b) { return b + b; }");
        breaks("11", "private void a(int b, int c, int d, int e, int f, int g, int h, int i) { }");
        breaks("12", "private void a(java.util.List<Integer> b) { for (int c : b) { } }");
    }

    private static void limits() {
        breaks("", "private void a() {" + "\n".repeat(59) + "}");
        breaks("11", "private void a() {" + "\n".repeat(60) + "}");
        breaks("", chain(8));
        breaks("11", chain(9));
        breaks("", many(20, "int a%d; "));
        breaks("11", many(21, "int a%d; "));
        breaks("", many(11, "private static final class A%d { } "));
        breaks("11", many(12, "private static final class A%d { } "));
    }

    private static String chain(int methods) {
        return many(methods - 1, "private void a%1$d() { a%2$d(); } ") + "private void a" + (methods - 1) + "() { }";
    }

    private static String many(int times, String pattern) {
        StringBuilder text = new StringBuilder();
        for (int i = 0; i < times; i++) {
            text.append(String.format(pattern, i, i + 1));
        }
        return text.toString();
    }

    /** The members break the rules with these numbers, and no others. */
    private static void breaks(String due, String members) {
        Set<String> rules = new TreeSet<>();
        for (String line : Rules.broken("public final class ObjectLinker { " + members + " }")) {
            rules.add(line.substring(0, line.indexOf(':')));
        }
        Check.text("rules that are broken by " + members, String.join(" ", rules), due);
    }
}
