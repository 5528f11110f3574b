import java.io.IOException;
import java.nio.file.Files;
import java.nio.file.Path;

/** The source keeps to LANGUAGE.md as far as its text shows that; small sources show that a breach is seen. */
public final class LanguageTest {
    private static String source;

    public static void main(String[] args) throws IOException {
        source = Files.readString(Path.of("src/main/java/TickArena.java"));
        Due.is("rules broken by the source", Language.broken(source, true).toString(), "[]");
        Due.is("rules broken by an empty class", brokenBy(""), "[]");
        face();
        classesInside();
        typesAndLibrary();
        statics();
        exceptions();
        divisorsAndLoops();
        callsAndSizes();
        making();
        changedSource();
        Due.end();
    }

    private static String brokenBy(String members) {
        return Language.broken("public final class TickArena {" + members + "}", false).toString();
    }

    private static void breaks(int rule, String members) {
        Due.is("rules broken by " + members, brokenBy(members), "[" + rule + "]");
    }

    private static void keeps(String members) {
        Due.is("rules broken by " + members, brokenBy(members), "[]");
    }

    private static void face() {
        Due.is("a package", Language.broken("package p; public final class TickArena {}", false).toString(), "[1]");
        Due.is("not final", Language.broken("public class TickArena {}", false).toString(), "[1]");
        Due.is("two classes", Language.broken("public final class TickArena {} class C {}", false).toString(), "[1]");
        keeps("public static final int NONE = -1; public void tick() {} private void step() {}");
        breaks(1, "int clock;");
        breaks(1, "protected void m() {}");
        breaks(1, "static void m() {}");
        breaks(1, "public int clock;");
        breaks(1, "TickArena() {}");
        breaks(1, "public static final class C {}");
        breaks(1, "private final class C {}");
        breaks(1, "public void tick() {} private void tick(int n) {}");
        breaks(1, "public void tick() {} private static final class C { private void tick() {} }");
    }

    private static void classesInside() {
        keeps("private static final class C { int n; void m() { } } static class D { }");
        breaks(2, "public void m() { class L { } }");
        String taker = "private interface F { void f(); } private void take(F f) { } private void g() { } ";
        keeps(taker + "public void m() { take(null); }");
        breaks(2, taker + "public void m() { take(() -> { }); }");
        breaks(2, taker + "public void m() { take(this::g); }");
    }

    private static void typesAndLibrary() {
        keeps("private final int[] row = new int[4]; public int m() { return row.length; }");
        breaks(3, "private double d;");
        breaks(3, "private String s;");
        breaks(3, "private int[][] rows;");
        breaks(3, "private Integer n;");
        breaks(3, "private Object m(Object o) { return o; }");
        breaks(4, "public int m() { return Math.abs(-1); }");
        breaks(4, "public int m() { return Integer.MAX_VALUE; }");
        breaks(4, "public void m() { System.out.flush(); }");
        Due.is("an import", Language.broken(
                "import java.util.List; public final class TickArena {}", false).toString(), "[4]");
    }

    private static void statics() {
        breaks(5, "private static int n;");
        breaks(5, "private static final int[] ROW = {1, 2};");
        breaks(5, "static { }");
    }

    private static void exceptions() {
        String thrower = "private void n() { throw new IllegalStateException(); } ";
        keeps(thrower + "public void m() throws IllegalStateException { n(); }");
        breaks(6, thrower + "public void m() { n(); }");
        breaks(6, "public void m() throws IllegalStateException { }");
        breaks(6, "public void m() throws SecurityException { throw new SecurityException(); }");
        keeps("public void m() throws IllegalStateException { throw new IllegalStateException(\"a\"); }");
        breaks(6, "public void m(int n) throws IllegalStateException {"
                + " throw new IllegalStateException(1 < n ? \"a\" : \"b\"); }");
        Due.is("joined texts", brokenBy("public void m(int n) throws IllegalStateException {"
                + " throw new IllegalStateException(\"a\" + n); }"), "[6, 10]");
        breaks(6, "public TickArena() throws IllegalStateException { throw new IllegalStateException(); }");
        breaks(6, "public synchronized void m() {}");
        breaks(6, "public void m() { synchronized (this) { } }");
        breaks(6, "public void m(int n) { assert n > 0; }");
        breaks(6, "public void m() { try { n(); } finally { n(); } } private void n() { }");
        breaks(6, "private static final class C { private void hashCode(int n) { } }");
        breaks(6, "private static class C {} private static final class D extends C {}"
                + " public void m() { n((D) null); } private void n(C c) { }");
    }

    private static void divisorsAndLoops() {
        keeps("private static final int N = 3; public int m(int n) { return n / N + n % 2; }");
        breaks(7, "private static final int N = 0; public int m(int n) { return n / N; }");
        breaks(7, "public int m(int n) { return 5 % n; }");
        breaks(7, "public int m(int n) { int k = 5; k /= n; return k; }");
        keeps("public void m(int n) { for (int i = 0; i < n; i++) { } for (int i = n; n > 1 && i >= 0; i -= 8) { } }");
        breaks(9, "public void m(int n) { while (n > 0) { n--; } }");
        breaks(9, "public void m(int n) { do { n--; } while (n > 0); }");
        breaks(9, "public void m() { for (;;) { } }");
        breaks(9, "public void m(int n) { for (int i = 0; i < n; i--) { } }");
        breaks(9, "public void m(int n) { for (int i = 0; i < n; i += 0) { } }");
        breaks(9, "public void m(int n) { for (int i = 0; i < n || n > 0; i++) { } }");
        breaks(9, "public void m(int n) { for (int i = 0; i < n; i++) { i--; } }");
        breaks(9, "public void m(int n) { for (int i = 0; i < n; i++) { if (n == 7) { i = 0; } } }");
        breaks(9, "public void m(int n) { for (int i = 0; n < 9; i++) { } }");
    }

    private static void callsAndSizes() {
        breaks(8, "private static void m() { m(); }");
        breaks(8, "private static void m() { n(); } private static void n() { m(); }");
        keeps(chain(8));
        breaks(11, chain(9));
        keeps("public void m(int a, int b, int c, int d, int e, int f, int g) { }");
        breaks(11, "public void m(int a, int b, int c, int d, int e, int f, int g, int h) { }");
        keeps("public void m() {" + "\n".repeat(59) + "}");
        breaks(11, "public void m() {" + "\n".repeat(60) + "}");
        keeps(many(11, "private static final class C# { }"));
        breaks(11, many(12, "private static final class C# { }"));
        keeps(many(20, "private int f#;") + many(20, "private static final int N# = 1;"));
        breaks(11, many(21, "private int f#;"));
    }

    /** So many methods, each but the last calling the next. */
    private static String chain(int length) {
        return many(length - 1, "private void m#() { m#+(); }") + "private void m" + (length - 1) + "() { }";
    }

    private static String many(int count, String member) {
        StringBuilder members = new StringBuilder();
        for (int i = 0; i < count; i++) {
            members.append(member.replace("#+", "" + (i + 1)).replace("#", "" + i));
        }
        return members.toString();
    }

    private static void making() {
        keeps("private final int[] row; public TickArena() { row = new int[9]; }");
        breaks(12, "private int[] row; public void m() { row = new int[9]; }");
        breaks(12, "private static final class C { } private C c; public void m() { c = new C(); }");
        breaks(12, "private static class C { C() { n(); } void n() { } }");
        breaks(12, "public TickArena() { m(this); } private static void m(TickArena arena) { }");
    }

    /** The source itself with one line taken out or changed. */
    private static void changedSource() {
        changed("create without its room", 6, "needRoom(LogBytes.CREATE_LENGTH);", "");
        changed("a call of the face that calls another", 6, "return world.clock;", "return at(0, true);");
        changed("a divisor that may be zero", 7, "pair % SLOTS", "pair % (pair - SLOTS)");
    }

    private static void changed(String what, int rule, String from, String to) {
        Due.is(what + ": it stands in the source", source.contains(from), true);
        Due.is(what, Language.broken(source.replace(from, to), false).toString(), "[" + rule + "]");
    }
}
