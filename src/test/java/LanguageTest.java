import java.io.IOException;
import java.nio.file.Files;
import java.nio.file.Path;
import java.util.List;
import java.util.regex.Matcher;
import java.util.regex.Pattern;

/** Those rules of LANGUAGE.md that can be seen in the text of the class, each as a pattern that it must not have. */
public final class LanguageTest {
    private static final String[][] RULES = {
        {"1: no package line", "(?m)^package "},
        {"2: no lambda, no method reference", "->|::"},
        {"3: no other type", "\\b(Object|Map|HashMap|Set|HashSet|Long|Character|Boolean|Optional|Stream|var)\\b(?!\\.)"},
        {"4: no other library", "(?m)^import (?!java\\.util\\.(ArrayList|Arrays|List|Iterator|NoSuchElementException);)"},
        {"4: no other function of a text", "\\.(substring|contains|split|trim|format|valueOf|insert|replace|isBlank)\\("},
        {"4: no function that throws", "Exact\\("},
        {"6: no catch, no try", "\\b(try|catch|finally)\\b"},
        {"6: only these exceptions", "throw (?!new (IllegalState|IllegalArgument|IndexOutOfBounds)Exception\\(\"[^\"]*\"\\);)"},
        {"6: no such word", "\\b(synchronized|assert|protected|volatile|transient|native)\\b"},
        {"10: no texts joined by +", "\" *\\+|\\+ *\""},
    };

    public static void main(String[] args) throws IOException {
        int wrong = 0;
        List<String> lines = Files.readAllLines(Path.of("src/main/java/Daywall.java"));
        StringBuilder code = new StringBuilder();
        for (String line : lines) {
            code.append(line.matches("\\s*(//|/\\*).*") ? "" : line).append('\n');
        }
        for (String[] rule : RULES) {
            Matcher m = Pattern.compile(rule[1]).matcher(code);
            while (m.find()) {
                wrong++;
                long line = code.substring(0, m.start()).chars().filter(c -> c == '\n').count() + 1;
                System.out.println("rule " + rule[0] + ", line " + line + ": " + lines.get((int) line - 1).trim());
            }
        }
        if (code.chars().anyMatch(c -> c > 127)) {
            wrong++;
            System.out.println("rule 4: a sign that is not 1 to 127");
        }
        System.out.println("LanguageTest: " + wrong + " wrong");
        if (wrong != 0) {
            System.exit(1);
        }
    }
}
