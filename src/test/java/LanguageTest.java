import java.io.IOException;
import java.nio.charset.StandardCharsets;
import java.nio.file.Files;
import java.nio.file.Path;
import java.util.List;
import java.util.Set;
import java.util.TreeSet;
import java.util.regex.Matcher;
import java.util.regex.Pattern;

/** Those rules of ../shared/LANGUAGE.md that the text of the program shows; run from the project's folder. */
public final class LanguageTest {
    private static final Path PROGRAM = Path.of("src/main/java/Averagehall.java");
    private static final Set<String> LIBRARY = Set.of("Math", "String", "NoSuchElementException",
            "IllegalArgumentException", "IllegalStateException", "IndexOutOfBoundsException", "ArithmeticException");

    public static void main(String[] args) throws IOException {
        String text = Files.readString(PROGRAM, StandardCharsets.US_ASCII);
        String code = withoutComments(text);
        imports(code);
        words(code);
        library(code);
        sizes(code);
        Check.end("LanguageTest");
    }

    private static String withoutComments(String text) {
        return text.replaceAll("(?s)/\\*.*?\\*/", "").replaceAll("//[^\n]*", "").replaceAll("\"[^\"\n]*\"", "\"\"");
    }

    private static int count(String code, String pattern) {
        Matcher matcher = Pattern.compile(pattern).matcher(code);
        int count = 0;
        while (matcher.find()) {
            count++;
        }
        return count;
    }

    private static void imports(String code) {
        Check.eq("imports", count(code, "(?m)^import "), 1);
        Check.eq("the import", count(code, "import java\\.util\\.NoSuchElementException;"), 1);
        Check.eq("package line", count(code, "(?m)^\\s*package "), 0);
    }

    private static void words(String code) {
        String[] banned = {"->", "::", "\\bfinally\\b", "\\bsynchronized\\b", "\\bassert\\b", "\\bcatch\\b", "\\btry\\b",
            "\\binstanceof\\b", "\\bnative\\b", "\\bvolatile\\b", "Exact\\(", "\\.hashCode\\b", "\\.equals\\b", "\\.toString\\b",
            "\\bSystem\\b", "\\bThread\\b", "\\bvar\\b", "\\byield\\b", "\\.stream\\b", "\\bInteger\\b", "\\bLong\\b"};
        for (String word : banned) {
            Check.eq("the program holds " + word, count(code, word), 0);
        }
        Check.eq("static state", count(code, "static (?!final|class|enum|[\\w<>\\[\\]]+ \\w+\\()"), 0);
        Check.eq("divisions by what is not looked at: / and % stand behind",
                new TreeSet<>(List.of(matches(code, "[/%]=? ?([A-Za-z0-9_.]+)"))),
                new TreeSet<>(Set.of("DAY", "WEEK", "100", "INTEREST_DIVISOR", "MOST_FACTS", "allWeights", "speed", "parties")));
    }

    private static String[] matches(String code, String pattern) {
        Matcher matcher = Pattern.compile(pattern).matcher(code.replaceAll("\\((float|double)\\) ", ""));
        Set<String> found = new TreeSet<>();
        while (matcher.find()) {
            if (!matcher.group(1).equals("whole")) {
                found.add(matcher.group(1));
            }
        }
        return found.toArray(new String[0]);
    }

    /** Names with a great first letter are the program's own or of the library that is let in. */
    private static void library(String code) {
        Set<String> own = new TreeSet<>(LIBRARY);
        Matcher matcher = Pattern.compile("\\b(?:class|enum) (\\w+)").matcher(code);
        int classes = 0;
        while (matcher.find()) {
            own.add(matcher.group(1));
            classes++;
        }
        Check.eq("at most twelve classes", classes <= 12, true);
        Matcher names = Pattern.compile("\\b([A-Z][a-z]\\w*)\\b").matcher(code);
        while (names.find()) {
            Check.eq("the name " + names.group(1) + " is let in", own.contains(names.group(1)), true);
        }
        Matcher math = Pattern.compile("\\bMath\\.(\\w+)").matcher(code);
        while (math.find()) {
            Check.eq("Math." + math.group(1), Set.of("max", "min", "abs").contains(math.group(1)), true);
        }
    }

    /** A method here starts and ends with the depth of its class's members. */
    private static void sizes(String code) {
        int lines = 0;
        String indent = null;
        for (String line : code.split("\n")) {
            Matcher start = Pattern.compile("^( {4}| {8})(?=\\S)[\\w<>\\[\\]. ]+\\(.*").matcher(line);
            if (indent == null && start.matches() && !line.matches(".*[;,]")) {
                indent = start.group(1);
                lines = 0;
                String parameters = line.substring(line.indexOf('('));
                Check.eq("at most seven parameters: " + line.trim(), count(parameters, ",") < 7, true);
            }
            lines++;
            if (indent != null && line.equals(indent + "}")) {
                Check.eq("a method of at most sixty lines, that ends in " + line, lines <= 60, true);
                indent = null;
            }
        }
    }
}
