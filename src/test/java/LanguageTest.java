import java.io.IOException;
import java.nio.file.Files;
import java.nio.file.Path;
import java.util.List;

/** The rules of LANGUAGE.md that the compiler's tree can show: the class breaks none, and a broken one is found. */
public final class LanguageTest {
    private static final Due due = new Due();

    public static void main(String[] args) throws IOException {
        due.during("LockTurns.java");
        due.none("rules broken", Rules.brokenBy(Files.readString(Path.of("src/main/java/LockTurns.java"))));
        due.during("a sample");
        due.none("rules broken", Rules.brokenBy(sample("private static final int[] ROW = {1, 2}; private int[][] grid;"
                + "private static final class Cell { final int[] of = ROW.clone(); Cell next; }"
                + "private enum Kind { A, B; } private String text = \"a\"; private java.util.List<Cell> cells;"
                + "private int f(int n, String s) { for (int i = 0; i < n; i++) { n -= s.equals(text) ? 1 : 2; }"
                + "return n > 0 ? f(n - 1, s) : Math.max(ROW[0], Integer.bitCount(n)); }")));
        faces();
        classes();
        types();
        library();
        statics();
        words();
        callsAndLoops();
        sizes();
        constructors();
        due.end();
    }

    private static String sample(String members) {
        return "public final class LockTurns { public LockTurns() { } public int day(int what) { return what; } "
                + members + " }";
    }

    /** A class with such a member breaks a rule, and that is seen. */
    private static void breaks(int rule, String members) throws IOException {
        breaksWhole(rule, sample(members));
    }

    private static void breaksWhole(int rule, String source) throws IOException {
        List<String> broken = Rules.brokenBy(source);
        boolean found = broken.stream().anyMatch(b -> b.startsWith("rule " + rule + ":"));
        due.holds("rule " + rule + " is broken by " + source + ", found: " + broken, found);
    }

    private static void inMethod(int rule, String statements) throws IOException {
        breaks(rule, "private int f(int n) { " + statements + " return n; }");
    }

    private static void faces() throws IOException {
        breaksWhole(0, "package a; public final class LockTurns { }");
        breaksWhole(0, "public final class LockTurns { } class Other { }");
        breaksWhole(1, "public class LockTurns { }");
        breaksWhole(1, "final class LockTurns { }");
        breaks(1, "int seen;");
        breaks(1, "protected void seen() { }");
        breaks(1, "void seen() { }");
        breaks(1, "public int seen;");
        breaks(1, "public static final int MORE = 1;");
        breaks(1, "private int day(int a, int b) { return a + b; }");
        breaks(1, "public static final class Shown { }");
    }

    private static void classes() throws IOException {
        breaks(2, "private final class Inner { }");
        inMethod(2, "class Local { }");
        inMethod(2, "Comparable<Integer> c = new Comparable<Integer>() {"
                + " public int compareTo(Integer o) { return 0; } };");
        inMethod(2, "Comparable<Integer> c = o -> 0;");
        breaks(2, "private static int g(Integer o) { return 0; } private Comparable<Integer> c = LockTurns::g;");
    }

    private static void types() throws IOException {
        breaks(3, "private Object any;");
        breaks(3, "private Long many;");
        breaks(3, "private String[] texts;");
        breaks(3, "private int[][][] deep;");
        breaks(3, "private java.util.Map<Integer, Integer> map;");
        breaks(3, "private CharSequence f() { return null; }");
        inMethod(3, "var o = new Object();");
    }

    private static void library() throws IOException {
        inMethod(4, "n = Math.addExact(n, 1);");
        inMethod(4, "n = (int) Math.sqrt(n);");
        inMethod(4, "n = Integer.MAX_VALUE;");
        inMethod(4, "n = Integer.parseInt(\"1\");");
        inMethod(4, "n = \"a\".hashCode();");
        inMethod(4, "n = \"a\".compareTo(\"b\");");
        inMethod(4, "n = (int) System.nanoTime();");
        inMethod(4, "n = (int) Math.random();");
        inMethod(4, "System.out.println(n);");
        inMethod(4, "n = new java.util.Random(n).nextInt();");
        inMethod(4, "new Thread().start();");
        inMethod(4, "String s = \"\\0\";");
        inMethod(4, "String s = \"\\u00e9\";");
        breaksWhole(4, "import java.util.Map; public final class LockTurns { }");
        breaksWhole(4, "public final class LockTurns { /* " + (char) 233 + " */ }");
    }

    private static void statics() throws IOException {
        breaks(5, "private static int many;");
        breaks(5, "private static final int[] ROW = new int[2];");
        breaks(5, "private static final short[] ROW = {1};");
        breaks(5, "private static final StringBuilder TEXT = new StringBuilder();");
        breaks(5, "static { int n = 1; }");
        String row = "private static final int[] ROW = {1}; private void f() { ";
        breaks(5, row + "ROW[0] = 2; }");
        breaks(5, row + "ROW[0]++; }");
        breaks(5, row + "ROW[0] += 2; }");
        breaks(5, row + "System.arraycopy(ROW, 0, ROW, 0, 1); }");
        breaksWhole(5, "import java.util.Arrays; " + sample(row + "Arrays.fill(ROW, 0); }"));
    }

    private static void words() throws IOException {
        inMethod(6, "if (n < 0) { throw new IllegalStateException(); }");
        inMethod(6, "try { n++; } finally { n--; }");
        inMethod(6, "synchronized (this) { n++; }");
        inMethod(6, "assert n > 0;");
        inMethod(6, "String s = \"a\"; n = s == \"b\" ? 1 : 0;");
        inMethod(6, "Integer a = n; Integer b = n; n = a != b ? 1 : 0;");
        inMethod(6, "Comparable<String> c = \"a\"; String s = (String) c;");
        breaks(6, "private static final class Own { public int hashCode() { return 1; } }");
        breaks(6, "private static final class Own { public boolean equals(Own o) { return o == this; } }");
        breaks(6, "private void f() throws IllegalStateException { }");
        breaks(6, "private synchronized void f() { }");
        inMethod(10, "String s = \"a\" + n;");
        inMethod(10, "String s = \"a\"; s += n;");
    }

    private static void callsAndLoops() throws IOException {
        breaksWhole(8, "public final class LockTurns { public int day(int n) { return n > 0 ? day(n - 1) : 0; } }");
        breaksWhole(8, "public final class LockTurns { public int day(int n) { return n > 0 ? f(n - 1) : 0; } "
                + "private int f(int n) { return day(n); } }");
        inMethod(9, "while (true) { n++; if (n > 5) { break; } }");
        inMethod(9, "for (;;) { n++; if (n > 5) { break; } }");
        inMethod(9, "for (int i = 0; n < 5; i++) { i += 2; }");
        inMethod(9, "int i = 0; do { i++; } while (n < 5);");
        StringBuilder chain = new StringBuilder();
        for (int i = 0; i < 9; i++) {
            chain.append("private void f").append(i).append("() { ").append(i < 8 ? "f" + (i + 1) + "();" : "").append("} ");
        }
        breaks(11, chain.toString());
    }

    private static void sizes() throws IOException {
        breaks(11, "private void f(int a, int b, int c, int d, int e, int f, int g, int h) { }");
        breaks(11, "private void f() {" + "\n".repeat(60) + "}");
        StringBuilder fields = new StringBuilder();
        StringBuilder classes = new StringBuilder();
        for (int i = 0; i < 21; i++) {
            fields.append("private int a").append(i).append(";");
            classes.append("private static final class A").append(i).append(" { } ");
        }
        breaks(11, fields.toString());
        breaks(11, classes.toString());
    }

    private static void constructors() throws IOException {
        breaks(12, "private static class Own { int n; Own() { n = g(); } int g() { return 1; } }");
        breaks(12, "private static final class Other { Other(Own of) { } } "
                + "private static final class Own { final Other o; Own() { o = new Other(this); } }");
    }
}
