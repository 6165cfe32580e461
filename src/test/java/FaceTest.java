import java.io.IOException;
import java.lang.reflect.Constructor;
import java.lang.reflect.Field;
import java.lang.reflect.Method;
import java.lang.reflect.Modifier;
import java.nio.file.Files;
import java.nio.file.Path;
import java.util.ArrayList;
import java.util.List;
import java.util.TreeSet;
import java.util.regex.Matcher;
import java.util.regex.Pattern;

/**
 * The face against the document's code block: the compiled members with their throws clauses, and the heads as they are
 * written, with the names of their parameters, in the document's order.
 */
public final class FaceTest {
    private static int wrong;

    public static void main(String[] args) throws IOException {
        String block = codeBlock(Files.readString(Path.of("../shared/DOC.md")));
        List<String> due = headsOf(block, ';');
        if (due.size() < 2) {
            fault("the document's code block has no heads");
        }
        compareCompiled(due);
        compareWritten(due, headsOf(Files.readString(Path.of("src/main/java/Daywall.java")), '{'));
        System.out.println("FaceTest: " + due.size() + " heads, " + wrong + " wrong");
        if (wrong != 0) {
            System.exit(1);
        }
    }

    private static void fault(String text) {
        wrong++;
        System.out.println("face: " + text);
    }

    private static String codeBlock(String document) {
        Matcher m = Pattern.compile("## The public face\\s+```java\\n(.*?)```", Pattern.DOTALL).matcher(document);
        return m.find() ? m.group(1) : "";
    }

    /** The head of the class, and those of its public members, which end with that sign. */
    private static List<String> headsOf(String code, char end) {
        List<String> heads = new ArrayList<>();
        String heading = "(?m)^(public [^;{]*(?=\\{)|    public [^;{]*(?=" + Pattern.quote("" + end) + "))";
        Matcher m = Pattern.compile(heading).matcher(code);
        while (m.find()) {
            heads.add(m.group().trim().replaceAll("\\s+", " "));
        }
        return heads;
    }

    private static void compareCompiled(List<String> due) {
        TreeSet<String> wanting = new TreeSet<>();
        for (String head : due) {
            // The names of the parameters, all ahead of the closing bracket, are not among the compiled ones.
            wanting.add(head.replaceAll("(\\w+) \\w+(?=[^()]*\\))", "$1"));
        }
        TreeSet<String> strange = new TreeSet<>(compiledHeads());
        TreeSet<String> right = new TreeSet<>(wanting);
        right.retainAll(strange);
        wanting.removeAll(right);
        strange.removeAll(right);
        for (String head : wanting) {
            fault("wanting: " + head);
        }
        for (String head : strange) {
            fault("not in the document: " + head);
        }
    }

    /** Of all members that are not private. */
    private static List<String> compiledHeads() {
        List<String> heads = new ArrayList<>();
        heads.add(Modifier.toString(Daywall.class.getModifiers()) + " class Daywall");
        for (Constructor<?> c : Daywall.class.getDeclaredConstructors()) {
            if (!Modifier.isPrivate(c.getModifiers())) {
                heads.add(head(c.getModifiers(), "Daywall", c.getParameterTypes(), c.getExceptionTypes()));
            }
        }
        for (Method m : Daywall.class.getDeclaredMethods()) {
            if (!Modifier.isPrivate(m.getModifiers())) {
                String name = m.getReturnType().getSimpleName() + " " + m.getName();
                heads.add(head(m.getModifiers(), name, m.getParameterTypes(), m.getExceptionTypes()));
            }
        }
        for (Field f : Daywall.class.getDeclaredFields()) {
            if (!Modifier.isPrivate(f.getModifiers())) {
                heads.add(f.toString());
            }
        }
        return heads;
    }

    private static String head(int modifiers, String name, Class<?>[] parameters, Class<?>[] exceptions) {
        String thrown = exceptions.length == 0 ? "" : " throws " + listed(exceptions);
        return (Modifier.toString(modifiers) + " ").stripLeading() + name + "(" + listed(parameters) + ")" + thrown;
    }

    private static String listed(Class<?>[] kinds) {
        List<String> names = new ArrayList<>();
        for (Class<?> kind : kinds) {
            names.add(kind.getSimpleName());
        }
        return String.join(", ", names);
    }

    private static void compareWritten(List<String> due, List<String> written) {
        for (int k = 0; k < Math.max(due.size(), written.size()); k++) {
            String want = k < due.size() ? due.get(k) : "no more";
            String got = k < written.size() ? written.get(k) : "no more";
            if (!want.equals(got)) {
                fault("head " + k + " is written: " + got + "; due is: " + want);
                return;
            }
        }
    }
}
