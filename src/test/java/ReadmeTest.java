import java.io.ByteArrayOutputStream;
import java.io.IOException;
import java.io.PrintStream;
import java.lang.reflect.Method;
import java.lang.reflect.Modifier;
import java.net.URL;
import java.net.URLClassLoader;
import java.nio.charset.StandardCharsets;
import java.nio.file.Files;
import java.nio.file.Path;
import java.util.ArrayList;
import java.util.List;
import java.util.regex.Matcher;
import java.util.regex.Pattern;
import javax.tools.ToolProvider;

/** That README.md's program prints what the page says, and that the page names each call of the face and each test. */
public final class ReadmeTest {
    private static int wrong;

    public static void main(String[] args) throws Exception {
        String page = Files.readString(Path.of("README.md"));
        Matcher program = Pattern.compile("```java\n(.*?)```", Pattern.DOTALL).matcher(page);
        if (program.find()) {
            duePrinted(program.group(1));
        } else {
            fault("there is no program");
        }
        dueCalls(page);
        dueTests(page);
        System.out.println("ReadmeTest: " + wrong + " wrong");
        if (wrong != 0) {
            System.exit(1);
        }
    }

    private static void fault(String text) {
        wrong++;
        System.out.println("README.md: " + text);
    }

    private static void duePrinted(String code) throws Exception {
        List<String> due = new ArrayList<>();
        for (String line : code.split("\n")) {
            if (line.contains("System.out.println(")) {
                due.add(line.replaceFirst(".*; *// ", ""));
            }
        }
        List<String> printed = printedBy(code);
        for (int k = 0; k < Math.max(due.size(), printed.size()); k++) {
            String want = k < due.size() ? due.get(k) : "no more";
            String got = k < printed.size() ? printed.get(k) : "no more";
            if (!want.equals(got)) {
                fault("line " + k + " prints " + got + ", told is " + want);
            }
        }
    }

    private static List<String> printedBy(String code) throws Exception {
        Path directory = Files.createTempDirectory("readme");
        Path file = directory.resolve("Example.java");
        Files.writeString(file, code);
        int answer = ToolProvider.getSystemJavaCompiler().run(null, System.out, System.out, "-Xlint:all", "-Werror", "-proc:none",
            "-cp", System.getProperty("java.class.path"), "-d", directory.toString(), file.toString());
        List<String> printed = new ArrayList<>();
        if (answer != 0) {
            fault("the program does not compile");
        } else {
            printed.addAll(List.of(run(directory).split("\n")));
        }
        Files.deleteIfExists(directory.resolve("Example.class"));
        Files.delete(file);
        Files.delete(directory);
        return printed;
    }

    private static String run(Path directory) throws Exception {
        PrintStream before = System.out;
        ByteArrayOutputStream taken = new ByteArrayOutputStream();
        try (URLClassLoader loader = new URLClassLoader(new URL[] {directory.toUri().toURL()})) {
            System.setOut(new PrintStream(taken, true, StandardCharsets.UTF_8));
            loader.loadClass("Example").getMethod("main", String[].class).invoke(null, (Object) new String[0]);
        } finally {
            System.setOut(before);
        }
        return taken.toString(StandardCharsets.UTF_8).replace("\r", "");
    }

    /** In the table's first column, each once. */
    private static void dueCalls(String page) {
        StringBuilder named = new StringBuilder(" ");
        for (String line : page.split("\n")) {
            if (line.startsWith("| `")) {
                named.append(line.split("\\|")[1].replace(",", " ")).append(' ');
            }
        }
        int calls = 0;
        for (Method m : Daywall.class.getDeclaredMethods()) {
            if (Modifier.isPublic(m.getModifiers())) {
                calls++;
                if (named.indexOf(" `" + m.getName() + "` ") < 0) {
                    fault("does not name " + m.getName());
                }
            }
        }
        long told = named.chars().filter(c -> c == '`').count() / 2;
        if (told != calls) {
            fault("names " + told + " calls, the class has " + calls);
        }
    }

    private static void dueTests(String page) throws IOException {
        String tests = page.substring(Math.max(0, page.indexOf("\nThe tests:")));
        try (var files = Files.list(Path.of("src/test/java"))) {
            for (Path file : (Iterable<Path>) files::iterator) {
                String name = file.getFileName().toString().replace(".java", "");
                if (!tests.contains("`" + name + "`")) {
                    fault("does not name " + name);
                }
            }
        }
        Matcher m = Pattern.compile("`(\\w+Test)`").matcher(page);
        while (m.find()) {
            if (!Files.exists(Path.of("src/test/java/" + m.group(1) + ".java"))) {
                fault("names " + m.group(1) + ", which is not there");
            }
        }
    }
}
