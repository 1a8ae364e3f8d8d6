import java.io.IOException;
import java.nio.file.Files;
import java.nio.file.Path;
import java.util.Set;
import java.util.TreeSet;
import java.util.regex.Matcher;
import java.util.regex.Pattern;

/** Rules of LANGUAGE.md that can be seen in the words of the source, read from the project's directory. */
public final class LanguageTest {
    private static final Set<String> THROWN = Set.of("IllegalArgumentException", "IllegalStateException",
            "IndexOutOfBoundsException", "NoSuchElementException");
    private static final Set<String> LIBRARY = Set.of("Math.max", "Math.min", "System.arraycopy");

    public static void main(String[] args) throws IOException {
        String source = Files.readString(Path.of("src/main/java/ReservoirCascade.java"));
        Check.equal("signs from 1 to 127", source.chars().allMatch(c -> c > 0 && c < 128), true);
        String code = source.replaceAll("(?s)/\\*.*?\\*/|//[^\n]*", "").replaceAll("\"[^\"\n]*\"", "\"\"");
        face(code);
        words(code);
        thrown(code);
        library(code);
        statics(code);
        names(code);
        sizes(code);
        Check.finish("LanguageTest");
    }

    /** Each signature that stands ahead of a promise. */
    private static void face(String code) throws IOException {
        String line = code.replaceAll("\\s+", " ");
        for (String signature : Document.read().signatures()) {
            Check.equal("public " + signature, line.contains(" public " + signature + " {"), true);
        }
    }

    private static void words(String code) {
        String forbidden = "\\b(try|catch|finally|synchronized|assert|package|volatile|transient|native|var|Object|"
                + "Arrays|Exact|equals|hashCode|instanceof|protected|record|interface|extends|implements)\\b|->|::|@";
        Check.equal("words that the rules or the plain form rule out", found(code, forbidden), "[]");
        Check.equal("imports", found(code, "import [^;]*;"), "[import java.util.NoSuchElementException;]");
        Check.equal("classes inside are private, static and final",
                found(code, "(?m)^ ++(?!private static final class)[a-z ]*\\bclass\\b"), "[]");
        Check.equal("public classes", found(code, "public [a-z ]*class \\w+"), "[public final class ReservoirCascade]");
    }

    /** The document and the tests ask for exceptions: they are thrown, but just those, and none is caught. */
    private static void thrown(String code) {
        String due = " new (?:" + String.join("|", THROWN) + ")\\((?:\"\"|message)\\);";
        Check.equal("throw", found(code, "\\bthrow\\b(?!" + due + ")"), "[]");
    }

    private static void library(String code) {
        Set<String> used = all(code, "\\b[A-Z][a-zA-Z]+\\.[a-z]\\w*");
        used.removeAll(LIBRARY);
        Check.equal("functions of the library", used, "[]");
    }

    private static void statics(String code) {
        Check.equal("static fields that aren't constants",
                found(code, "(?m)^ +(?:private )?static (?!final)[^(]*;"), "[]");
        Check.equal("static initialisers", found(code, "static \\{"), "[]");
    }

    private static void names(String code) {
        Set<String> open = all(code, "(?m)^    public [a-z]+ (\\w+)\\(");
        Set<String> others = all(code, "(?m)^ {4,8}(?:private )?(?:static )?[a-zA-Z\\[\\]]+ (\\w+)\\([^;]*\\{$");
        others.removeIf(name -> !open.contains(name));
        Check.equal("public methods", open.size(), 27);
        Check.equal("other methods with the name of a public one", others, "[]");
        Check.equal("members of the class that are neither public nor private",
                found(code, "(?m)^    (?!public|private)[a-zA-Z].*"), "[]");
    }

    private static void sizes(String code) {
        int lines = 0;
        String inside = null;
        for (String line : code.split("\n")) {
            if (line.matches(" {4,8}[a-zA-Z].*\\).*\\{") && !line.contains("class ")) {
                inside = line;
                lines = 0;
            }
            lines++;
            if (inside != null && line.matches(" {4,8}\\}") && line.indexOf('}') == inside.indexOf(inside.trim())) {
                Check.equal("short enough: " + inside.trim(), lines <= 60, true);
                Check.equal("few parameters: " + inside.trim(), inside.split(",").length <= 7, true);
                inside = null;
            }
        }
    }

    private static Set<String> all(String code, String pattern) {
        Set<String> found = new TreeSet<>();
        Matcher matcher = Pattern.compile(pattern).matcher(code);
        while (matcher.find()) {
            found.add(matcher.groupCount() == 1 && matcher.group(1) != null ? matcher.group(1) : matcher.group());
        }
        return found;
    }

    private static String found(String code, String pattern) {
        return all(code, pattern).toString();
    }
}
