import java.nio.file.Files;
import java.nio.file.Path;
import java.util.ArrayList;
import java.util.List;
import java.util.Set;
import java.util.regex.Matcher;
import java.util.regex.Pattern;

/** What LANGUAGE.md says that can be read off the source by its lines; FaceTest looks at the face. */
public final class LanguageTest {
    private static final Set<String> THROWN = Set.of("IllegalStateException", "IllegalArgumentException",
        "IndexOutOfBoundsException", "ArithmeticException", "UnsupportedOperationException", "NoSuchElementException",
        "RuntimeException");
    /** Those that the machine doesn't throw, and that stand above none that it throws. */
    private static final Set<String> CAUGHT = Set.of("IllegalStateException", "IllegalArgumentException",
        "UnsupportedOperationException", "NoSuchElementException");
    /** Of what rule 4 allows just what the class uses: a name more is looked up there, and then comes to this row. */
    private static final Set<String> LIBRARY = Set.of("System.arraycopy", "Math.max", "Math.min", "Math.abs",
        "Integer.bitCount", "Integer.MAX_VALUE", "Integer.MIN_VALUE", "Scout.SEEN");
    private static final Set<String> BANNED = Set.of("import", "package", "finally", "synchronized", "assert", "volatile",
        "native", "protected", "equals", "hashCode", "toString", "getMessage", "var", "yield");

    public static void main(String[] args) throws Exception {
        String source = Files.readString(Path.of("src/main/java/TwoFlags.java"));
        long far = source.chars().filter(c -> c > 127).count();
        Due.due("signs above 127", far, 0);
        Due.due("texts joined by +", found("\"\\s*\\+|\\+\\s*\"", source).size(), 0);
        String code = source.replaceAll("\"[^\"\n]*\"", "\"\"").replaceAll("(?s)/\\*.*?\\*/", "").replaceAll("//[^\n]*", "");
        words(code);
        exceptions(code);
        fields(code);
        methods(code);
        Due.end();
    }

    private static List<String> found(String pattern, String text) {
        List<String> all = new ArrayList<>();
        Matcher m = Pattern.compile(pattern).matcher(text);
        while (m.find()) {
            all.add(m.groupCount() > 0 ? m.group(1) : m.group());
        }
        return all;
    }

    private static void words(String code) {
        for (String word : found("\\b[a-zA-Z_]\\w*\\b", code)) {
            Due.due("word " + word, BANNED.contains(word) ? 1 : 0, 0);
        }
        for (String name : found("\\b([A-Z]\\w*\\.\\w+)", code)) {
            Due.due("library " + name, LIBRARY.contains(name) ? 1 : 0, 1);
        }
        Due.due("lambdas and references to methods", found("->|::", code).size(), 0);
        Due.due("classes", found("\\bclass \\w+", code).size() <= 12 ? 1 : 0, 1);
    }

    private static void exceptions(String code) {
        int thrown = found("\\bthrow\\b", code).size();
        List<String> written = found("\\bthrow new (\\w+)\\(\"?\"?\\);", code);
        Due.due("each throw makes what it throws, with a written text", written.size(), thrown);
        for (String name : written) {
            Due.due("thrown " + name, THROWN.contains(name) ? 1 : 0, 1);
        }
        for (String name : found("\\bcatch \\((\\w+) \\w+\\)", code)) {
            Due.due("caught " + name, CAUGHT.contains(name) ? 1 : 0, 1);
        }
        Due.due("each catch is of one class", found("\\bcatch\\b", code).size(), found("\\bcatch \\(\\w+ \\w+\\)", code).size());
    }

    private static void fields(String code) {
        Due.due("static blocks", found("\\bstatic\\s*\\{", code).size(), 0);
        for (String line : code.split("\n")) {
            if (line.matches(".*\\bstatic\\b.*;")) {
                Due.due("static and final: " + line.trim(), line.matches(".*\\bstatic final (int|long|boolean|char|String)\\b.*") ? 1 : 0, 1);
            }
        }
    }

    /** Methods as they are laid out: the last line is a brace as far in as the first line. */
    private static void methods(String code) {
        String[] lines = code.split("\n");
        int seen = 0;
        for (int i = 0; i < lines.length; i++) {
            Matcher head = Pattern.compile("( {4}| {8})(?!for|if|while|switch|try|else)[\\w<>\\[\\]][^=]*\\(([^()]*)\\)[^;=]*\\{\\s*").matcher(lines[i]);
            if (!head.matches()) {
                continue;
            }
            seen++;
            int end = i;
            while (end < lines.length - 1 && !lines[end].equals(head.group(1) + "}")) {
                end++;
            }
            String parameters = head.group(2);
            Due.due("lines of " + lines[i].trim(), end - i + 1 <= 60 ? 1 : 0, 1);
            Due.due("parameters of " + lines[i].trim(), parameters.split(",").length <= 7 ? 1 : 0, 1);
        }
        Due.due("methods were seen", seen > 90 ? 1 : 0, 1);
    }
}
