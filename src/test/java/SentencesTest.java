import java.io.IOException;
import java.lang.reflect.Method;
import java.nio.file.Files;
import java.nio.file.Path;
import java.util.ArrayList;
import java.util.Arrays;
import java.util.LinkedHashMap;
import java.util.List;
import java.util.Map;
import java.util.regex.Matcher;
import java.util.regex.Pattern;

/**
 * Holds the words that the tests of the edges bear (Says) against the document: each of them stands there, in the section that
 * is named, and each sentence of the promises and of the Description is borne by a test, word by word.
 */
public final class SentencesTest {
    private static final List<Class<?>> TESTS = List.of(EdgeDaysTest.class, EdgeSeriesTest.class, EdgeSeriesCallsTest.class, EdgeAskedTest.class,
        EdgeMeetingsTest.class, EdgeBusyTest.class, EdgeClockTest.class, EdgeRestTest.class);
    /** What says nothing that a call could break. */
    private static final List<String> NOT_TESTED =
        List.of("The constructor and the methods follow, a promise each: the signature, then what it does.");

    private static int wrong;

    public static void main(String[] args) throws IOException {
        String document = Files.readString(Path.of("../shared/DOC.md"));
        Map<String, String> sections = sectionsOf(document, false);
        Map<String, String> withAll = sectionsOf(document, true);
        Map<String, boolean[]> borne = new LinkedHashMap<>();
        for (Map.Entry<String, String> section : sections.entrySet()) {
            borne.put(section.getKey(), new boolean[section.getValue().length()]);
        }
        int tests = 0;
        for (Class<?> tested : TESTS) {
            for (Method m : Edges.testsOf(tested)) {
                tests++;
                bear(m, sections, withAll, borne);
            }
        }
        for (String words : NOT_TESTED) {
            mark(words, sections.get("Description"), borne.get("Description"));
        }
        for (Map.Entry<String, String> section : sections.entrySet()) {
            dueBorne(section.getKey(), section.getValue(), borne.get(section.getKey()));
        }
        if (sections.size() != 61 + 6) {
            fault("the document has " + sections.size() + " sections, not the Description, its 5 parts, and 61 promises");
        }
        dueAllFiles();
        System.out.println("SentencesTest: " + sections.size() + " sections, " + tests + " tests, " + wrong + " wrong");
        if (wrong != 0) {
            System.exit(1);
        }
    }

    private static void fault(String text) {
        wrong++;
        System.out.println("sentences: " + text);
    }

    /** The Description (its beginning and its end), its parts, and the promises, without headings, signatures, and parameters without bounds. */
    private static Map<String, String> sectionsOf(String document, boolean isWithAll) {
        Map<String, String> sections = new LinkedHashMap<>();
        String at = "";
        for (String line : document.split("\n")) {
            Matcher heading = Pattern.compile("## (Promise \\d+)(: .*)?|## (.*)|== (\\d\\. .*)").matcher(line);
            if (heading.matches()) {
                at = heading.group(1) != null ? heading.group(1) : heading.group(3) != null ? heading.group(3) : heading.group(4);
            } else if (line.startsWith("A method that throws an exception")) {
                at = "Description";
            }
            boolean isSentence = !heading.matches() && !line.startsWith("`") && !line.startsWith("----") && !line.isBlank();
            boolean isBoundless = !isWithAll && line.matches("- `\\w+`: [^0-9]*") && !line.contains("NONE");
            if (isSentence && !isBoundless && at.matches("Promise \\d+|Description|\\d\\. .*")) {
                sections.merge(at, plain(line.replaceFirst("^- ", "")), (one, other) -> one + " " + other);
            }
        }
        return sections;
    }

    private static String plain(String text) {
        return text.replace("`", "").replaceAll("\\s+", " ").trim();
    }

    private static void bear(Method m, Map<String, String> sections, Map<String, String> withAll, Map<String, boolean[]> borne) {
        Says says = m.getAnnotation(Says.class);
        String test = m.getDeclaringClass().getName() + "." + m.getName();
        if (!sections.containsKey(says.at())) {
            fault(test + ": there is no section \"" + says.at() + "\"");
            return;
        }
        for (String words : says.value()) {
            // A test may bear a parameter without bounds, too.
            if (!mark(words, sections.get(says.at()), borne.get(says.at())) && !withAll.get(says.at()).contains(words)) {
                fault(test + ": \"" + words + "\" does not stand in " + says.at());
            }
        }
    }

    /** Marks each place where the words stand; tells whether there is one. */
    private static boolean mark(String words, String text, boolean[] isBorne) {
        int found = 0;
        for (int at = text.indexOf(words); at >= 0; at = text.indexOf(words, at + 1)) {
            Arrays.fill(isBorne, at, at + words.length(), true);
            found++;
        }
        return found > 0;
    }

    private static void dueBorne(String section, String text, boolean[] isBorne) {
        StringBuilder rest = new StringBuilder();
        List<String> pieces = new ArrayList<>();
        for (int k = 0; k <= text.length(); k++) {
            if (k < text.length() && !isBorne[k]) {
                rest.append(text.charAt(k));
            } else if (rest.length() > 0) {
                pieces.add(rest.toString().trim());
                rest.setLength(0);
            }
        }
        for (String piece : pieces) {
            if (piece.matches(".*\\w.*")) {
                fault("no test bears of " + section + ": \"" + piece + "\"");
            }
        }
    }

    /** That no file of such tests is forgotten here. */
    private static void dueAllFiles() throws IOException {
        try (var files = Files.list(Path.of("src/test/java"))) {
            for (Path file : (Iterable<Path>) files::iterator) {
                String name = file.getFileName().toString().replace(".java", "");
                if (name.matches("Edge\\w+Test") && TESTS.stream().noneMatch(c -> c.getName().equals(name))) {
                    fault(name + " is not looked at");
                }
            }
        }
    }
}
