import com.sun.source.tree.CompilationUnitTree;
import com.sun.source.util.JavacTask;
import com.sun.source.util.Trees;
import java.io.IOException;
import java.net.URI;
import java.nio.file.Files;
import java.nio.file.Path;
import java.util.List;
import javax.tools.DiagnosticCollector;
import javax.tools.JavaCompiler;
import javax.tools.JavaFileObject;
import javax.tools.SimpleJavaFileObject;
import javax.tools.StandardJavaFileManager;
import javax.tools.ToolProvider;

/**
 * The rules of ../shared/LANGUAGE.md, each by its number (LanguageRules), on the class; and on small classes that break one
 * rule each, so that a rule that lets all pass is seen. Rules 7 and 12 (what a run makes) are held by RoomTest and the others.
 */
public final class LanguageTest {
    /** The rule, and members of a class that break it. */
    private static final String[][] BREACHES = {
        {"1", "int seen;"},
        {"1", "int seen() { return 0; }"},
        {"1", "protected int seen() { return 0; }"},
        {"1", "public int day() { return 0; } private int day(int x) { return x; }"},
        {"1", "public static final class Inner { }"},
        {"2", "private static int f() { Runnable r = () -> { }; return 0; }"},
        {"2", "private static int f() { class Local { } return 0; }"},
        {"2", "private enum Kind { A; private final Kind[] row = null; }"},
        {"3", "private Object o;"},
        {"3", "private Long o;"},
        {"3", "private String[][] o;"},
        {"3", "private long[][][] o;"},
        {"3", "private static int f() { var x = List.of(\"\"); return x.size(); }"},
        {"3", "private static int f() { int[] x = {1}; Object o = x; return 0; }"},
        {"4", "private static String f(int x) { return String.valueOf(x); }"},
        {"4", "private static boolean f(String x) { return x.contains(\"a\"); }"},
        {"4", "private static int f(StringBuilder x) { x.append(1L); return 0; }"},
        {"4", "private static int f(StringBuilder x) { x.insert(0, 'a'); return 0; }"},
        {"4", "private static int f(int x) { return Math.addExact(x, 1); }"},
        {"4", "private static double f(double x) { return Math.abs(x); }"},
        {"4", "private static int f(int[] x) { Arrays.sort(x); return 0; }"},
        {"4", "private static int f(ArrayList<Integer> x) { return x.indexOf(3); }"},
        {"4", "private static String f() { return \"\u00e9\"; }"},
        {"5", "private static int x = 1;"},
        {"5", "private static final ArrayList<Integer> X = null;"},
        {"5", "private static final double X = 1;"},
        {"5", "private static final int[] X = new int[3];"},
        {"5", "private static final int X; static { X = 1; }"},
        {"5", "private static final int[] X = {1, 2}; private static void f() { X[0] = 3; }"},
        {"5", "private static final int[] X = {1, 2}; private static void f() { X[0]++; }"},
        {"6", "private static int f() { throw new IllegalStateException(\"a\" + 1); }"},
        {"6", "private static int f(RuntimeException e) { throw e; }"},
        {"6", "private static int f() { throw new ClassCastException(); }"},
        {"6", "private static RuntimeException f() { return new RuntimeException(); }"},
        {"6", "private static int f() { try { return g(); } catch (RuntimeException e) { return 0; } } private static int g() { return 1; }"},
        {"6", "private Daywall(int x) { if (x < 0) { throw new IllegalStateException(); } }"},
        {"6", "private static boolean f(String x, String y) { return x == y; }"},
        {"6", "private static boolean f(Integer x, Integer y) { return x != y; }"},
        {"6", "public boolean equals(Daywall o) { return true; }"},
        {"6", "private static void f(int x) { assert x > 0; }"},
        {"6", "private synchronized void f() { }"},
        {"8", "private static int f(int x) { return x < 1 ? 0 : f(x - 1); }"},
        {"8", "private static int f(int x) { return g(x); } private static int g(int x) { return x < 1 ? 0 : f(x - 1); }"},
        {"9", "private static int f(int x) { while (true) { if (x > 0) { return x; } x++; } }"},
        {"9", "private static int f(int x) { for (int k = 0; ; k++) { if (k > x) { return x; } } }"},
        {"9", "private static int f(int x) { int k = 0; do { k++; } while (!(k > 3)); return k; }"},
        {"10", "private static String f(int x) { return \"a\" + x; }"},
        {"10", "private static String f(String x) { x += 1; return x; }"},
        {"10", "private static int f(String x) { switch (x) { case \"a\": return 1; default: return 0; } }"},
        {"11", "private static int f(int a, int b, int c, int d, int e, int g, int h, int i) { return 0; }"},
        {"11", "private int a, b, c, d, e, f, g, h, i, j, k, l, m, n, o, p, q, r, s, t, u;"},
        {"11", "private static int f(int x) {" + "\n".repeat(62) + "return x; }"},
        {"11", "private static class A { } private static class B { } private static class C { } private static class D { }"
            + "private static class E { } private static class F { } private static class G { } private static class H { }"
            + "private static class I { } private static class J { } private static class K { } private static class L { }"},
        {"11", "private static int a() { return b(); } private static int b() { return c(); } private static int c() { return d(); }"
            + "private static int d() { return e(); } private static int e() { return f(); } private static int f() { return g(); }"
            + "private static int g() { return h(); } private static int h() { return i(); } private static int i() { return 1; }"},
        {"12", "private static int f() { int s = 0; for (int k = 0; k < 9; k++) { s += new int[3].length; } return s; }"},
        {"12", "private static int f() { StringBuilder s = null; for (int k = 0; k < 9; k++) { s = new StringBuilder(); } return s.length(); }"},
        {"13", "private static int f() { return (int) System.nanoTime(); }"},
        {"13", "private static int f() { return (int) (10 * Math.random()); }"},
    };
    private static final String[] OTHER_BREACHES = {
        "1", "package a; public final class Daywall { }",
        "1", "public class Daywall { }",
        "1", "public final class Daywall { } class Other { }",
        "4", "import java.util.HashMap; public final class Daywall { }",
        "13", "public final class Daywall { private static int f() { return (int) java.time.Instant.now().toEpochMilli(); } }",
    };

    private static final JavaCompiler COMPILER = ToolProvider.getSystemJavaCompiler();
    private static final StandardJavaFileManager FILES = COMPILER.getStandardFileManager(null, null, null);

    public static void main(String[] args) throws IOException {
        int wrong = 0;
        List<String> faults = faultsOf(Files.readString(Path.of("src/main/java/Daywall.java")));
        for (String fault : faults) {
            System.out.println("rule " + fault);
        }
        wrong += faults.size();
        for (String[] breach : BREACHES) {
            wrong += dueFault(breach[0], "import java.util.ArrayList;\nimport java.util.Arrays;\nimport java.util.List;\n"
                + "public final class Daywall {\n    " + breach[1] + "\n}\n");
        }
        for (int k = 0; k + 1 < OTHER_BREACHES.length; k += 2) {
            wrong += dueFault(OTHER_BREACHES[k], OTHER_BREACHES[k + 1]);
        }
        int breaches = BREACHES.length + OTHER_BREACHES.length / 2;
        System.out.println("LanguageTest: the class and " + breaches + " that break a rule, " + wrong + " wrong");
        if (wrong != 0) {
            System.exit(1);
        }
    }

    private static int dueFault(String rule, String code) throws IOException {
        List<String> faults = faultsOf(code);
        for (String fault : faults) {
            if (fault.startsWith(rule + ",") || rule.equals("13") && fault.startsWith("4,")) {
                return 0;
            }
        }
        System.out.println("rule " + rule + " lets pass, with " + faults + ":\n" + code);
        return 1;
    }

    private static List<String> faultsOf(String code) throws IOException {
        JavaFileObject file = new SimpleJavaFileObject(URI.create("string:///Daywall.java"), JavaFileObject.Kind.SOURCE) {
            @Override
            public CharSequence getCharContent(boolean isLenient) {
                return code;
            }
        };
        DiagnosticCollector<JavaFileObject> told = new DiagnosticCollector<>();
        JavacTask task = (JavacTask) COMPILER.getTask(null, FILES, told, List.of("-proc:none"), null, List.of(file));
        CompilationUnitTree unit = task.parse().iterator().next();
        task.analyze();
        told.getDiagnostics().forEach(d -> {
            if (d.getKind() == javax.tools.Diagnostic.Kind.ERROR) {
                System.out.println("does not compile: " + d.getMessage(null) + " in\n" + code);
            }
        });
        LanguageRules rules = new LanguageRules(unit, Trees.instance(task));
        rules.look();
        return rules.faults;
    }
}
