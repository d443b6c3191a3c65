import java.io.IOException;
import java.nio.file.Files;
import java.nio.file.Path;
import java.util.List;

/** The class keeps to LANGUAGE.md as far as RuleScan sees; and RuleScan sees what is put before it. */
public final class LanguageTests {
    /** A rule's number, then members that break it. */
    private static final String[][] BROKEN = {
        {"1", "public int clear() { return 0; } private int clear(int x) { return x; }"},
        {"1", "int open;"},
        {"1", "int open() { return 0; }"},
        {"1", "public static final class Open { }"},
        {"2", "final class Inner { }"},
        {"2", "private interface Run { int on(); } private final Run run = () -> 1;"},
        {"2", "private interface Run { int on(); } private static int one() { return 1; }"
            + " private final Run run = GateSums::one;"},
        {"3", "private double half;"},
        {"3", "private Object any;"},
        {"3", "private int[][] rows;"},
        {"3", "private Integer boxed() { return null; }"},
        {"4", "private int f(int x) { return Math.addExact(x, 1); }"},
        {"4", "private long f() { return System.nanoTime(); }"},
        {"4", "private int f(String s) { return s.trim().length(); }"},
        {"5", "private static int count;"},
        {"5", "private static final int[] ROW = new int[3];"},
        {"5", "static { }"},
        {"6", "private void f() { throw new IllegalStateException(); }"},
        {"6", "private void f() { try { } finally { } }"},
        {"6", "private void f() { synchronized (this) { } }"},
        {"6", "private void f() { assert true; }"},
        {"6", "private boolean f(String s) { return s == \"in\"; }"},
        {"6", "private static final class Part { public int hashCode() { return 1; } }"},
        {"7", "private int f(int[] row, int i) { return row[i]; }"},
        {"7", "private int f(int[] row, int i) { return i >= 0 ? row[i] : 0; }"},
        {"7", "private int f(int[] row, int i) { return i < row.length ? row[i] : 0; }"},
        {"7", "private int f(int x, int y) { return x / y; }"},
        {"7", "private int f(int x, int y) { return x % y; }"},
        {"7", "private void f(int[] row) { System.arraycopy(row, 0, row, 1, 3); }"},
        {"8", "private int f(int x) { return x > 0 ? f(x - 1) : 0; }"},
        {"8", "private int f(int x) { return x > 0 ? h(x - 1) : 0; } private int h(int x) { return f(x); }"},
        {"9", "private void f() { for (;;) { } }"},
        {"9", "private void f(boolean go) { while (go) { } }"},
        {"9", "private void f(int n) { for (int i = 0; i != n; i++) { } }"},
        {"9", "private void f(int n) { for (int i = 0; i < n; i++) { i--; } }"},
        {"9", "private void f(int n, boolean go) { for (int i = 0; i < n || go; i++) { } }"},
        {"9", "private void f(int n) { int i = 0; do { i++; } while (i < n); }"},
        {"10", "private int f(String s) { return (s + 1).length(); }"},
        {"11", "private void f(int a, int b, int c, int d, int e, int f, int g, int h) { }"},
        {"11", "private void f() {" + "\n".repeat(61) + "}"},
        {"11", "private void a() { b(); } private void b() { c(); } private void c() { d(); } private void d() { e(); }"
            + "private void e() { f(); } private void f() { g(); } private void g() { h(); } private void h() { i(); }"
            + "private void i() { }"},
        {"12", "private int[] f() { return new int[3]; }"},
        {"12", "private static final class Part { } private Part f() { return new Part(); }"},
    };
    private static final String[] KEPT = {
        "public int clear() { return 0; }",
        "private static final int[] ROW = {1, 2}; private final int[] row = new int[3];",
        "private int f(int[] row, int i) { return i >= 0 && i < row.length ? row[i] : 0; }",
        "private int f(int x, int y) { return y > 0 ? x / y + x % 7 : 0; }",
        "private void f(int n) { for (int i = 0; i < n && n < 9; i++) { } int j = 0; while (j <= n) { j++; } }",
        "private void a() { b(); } private void b() { c(); } private void c() { d(); } private void d() { e(); }"
            + "private void e() { f(); } private void f() { g(); } private void g() { h(); } private void h() { }",
        "private static final class Part { int x; void add(int y) { x += y; } } private final Part part = new Part();",
    };

    private final Due due = new Due();

    public static void main(String[] args) throws IOException {
        new LanguageTests().all();
    }

    private void all() throws IOException {
        for (String[] broken : BROKEN) {
            List<String> faults = RuleScan.faultsOf("public final class GateSums { " + broken[1] + " }");
            boolean seen = faults.stream().anyMatch(f -> f.startsWith("rule " + broken[0] + ":"));
            due.is("rule " + broken[0] + " is seen broken in: " + broken[1] + " " + faults, seen ? 1 : 0, 1);
        }
        for (String kept : KEPT) {
            List<String> faults = RuleScan.faultsOf("public final class GateSums { " + kept + " }");
            due.is("faults of " + kept + " " + faults, faults.size(), 0);
        }
        Path path = Path.of(System.getProperty("source", "src/main/java/GateSums.java"));
        List<String> faults = RuleScan.faultsOf(Files.readString(path));
        due.is("faults of GateSums " + faults, faults.size(), 0);
        due.end();
    }
}
