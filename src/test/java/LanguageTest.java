import java.io.IOException;
import java.nio.file.Files;
import java.nio.file.Path;
import java.util.Set;

/** The rules of LANGUAGE.md that a parser can see, on the class, and on small sources that break one each. */
public final class LanguageTest {
    private static final Due DUE = new Due("LanguageTest");

    public static void main(String[] args) throws IOException {
        for (String line : Rules.brokenBy(Files.readString(Path.of(args[0])))) {
            DUE.isTrue(line, false);
        }
        DUE.isTrue("a plain class breaks nothing", Rules.brokenBy(plain("")).isEmpty());
        members();
        calls();
        statements();
        DUE.end();
    }

    private static String plain(String member) {
        return "public final class ProofMarks { private int sum = 0; " + member + " }";
    }

    /** Tries that a member of the class is found to break a rule. */
    private static void finds(int rule, String member) throws IOException {
        Set<String> broken = Rules.brokenBy(plain(member));
        DUE.isTrue("rule " + rule + " is broken by " + member + ", found " + broken,
            broken.stream().anyMatch(line -> line.startsWith("rule " + rule + ",") || line.startsWith("rule " + rule + ":")));
    }

    private static void members() throws IOException {
        finds(2, "class Inner { }");
        finds(2, "private record Pair(int a, int b) { }");
        finds(3, "private Object any = null;");
        finds(3, "private int[][][] deep = null;");
        finds(3, "private String[] texts = null;");
        finds(5, "private static int total = 0;");
        finds(5, "private static final int[] ROW = new int[3];");
        finds(5, "static { int a = 1; }");
        finds(5, "private static final int[] ROW = {1}; public void f() { ROW[0] = 2; }");
        finds(5, "private static final int[] ROW = {1}; public void f() { ROW[0]++; }");
        finds(5, "private static final int[] ROW = {1}; public void f() { ROW[0] += 2; }");
        finds(11, "public int f(int a, int b, int c, int d, int e, int f, int g, int h) { return a; }");
        finds(11, "public int f() { int a = 0; " + "a++;\n".repeat(61) + " return a; }");
        finds(11, "private int " + fields(20) + ";");
        StringBuilder classes = new StringBuilder();
        for (int i = 0; i < 12; i++) {
            classes.append("private static final class C").append(i).append(" { } ");
        }
        finds(11, classes.toString());
    }

    private static String fields(int many) {
        StringBuilder names = new StringBuilder("f0");
        for (int i = 1; i < many; i++) {
            names.append(", f").append(i);
        }
        return names.toString();
    }

    private static void calls() throws IOException {
        finds(4, "public long f() { return System.nanoTime(); }");
        finds(4, "public int f() { return Math.addExact(1, 2); }");
        finds(4, "public int f() { return \"a\".hashCode(); }");
        finds(4, "private final Exception e = new Exception();");
        finds(8, "public int f(int a) { return a < 1 ? 0 : f(a - 1); }");
        finds(8, "public int f(int a) { return a < 1 ? 0 : g(a); } private int g(int a) { return f(a - 1); }");
        finds(12, "public int f() { int[] row = new int[3]; return row[0]; }");
        finds(12, "public int f() { ProofMarks other = new ProofMarks(); return other.sum; }");
        finds(11, row(9));
        DUE.isTrue("eight calls are not too deep", Rules.brokenBy(plain(row(8))).isEmpty());
    }

    /** As many methods as are told, each of which calls the next. */
    private static String row(int many) {
        StringBuilder methods = new StringBuilder();
        for (int i = 1; i < many; i++) {
            methods.append("private int m").append(i).append("() { return m").append(i + 1).append("(); } ");
        }
        return methods.append("private int m").append(many).append("() { return 1; }").toString();
    }

    private static void statements() throws IOException {
        finds(2, "private static final class R { } public void f() { Runnable r = () -> { }; }");
        finds(2, "public void g() { } public void f() { Runnable r = this::g; }");
        finds(2, "public void f() { Object o = new Object() { }; }");
        finds(6, "public void f() { throw null; }");
        finds(6, "public void f() { try { sum = 1; } finally { sum = 2; } }");
        finds(6, "public void f() { synchronized (this) { sum = 1; } }");
        finds(6, "public void f() { assert sum == 0; }");
        finds(6, "public void f() throws Exception { }");
        finds(6, "public boolean f(String a, String b) { return a == b; }");
        finds(9, "public void f() { while (sum != 3) { sum = 3; } }");
        finds(9, "public void f() { for (;;) { sum = 3; } }");
        finds(9, "public void f() { do { sum = 3; } while (true); }");
        finds(10, "public String f(String a) { return a + 1; }");
        finds(10, "public String f(String a) { a += 1; return a; }");
        finds(10, "public int f(String a) { switch (a) { case \"b\": return 1; default: return 2; } }");
    }
}
