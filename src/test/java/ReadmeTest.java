import java.net.URL;
import java.net.URLClassLoader;
import java.nio.file.Files;
import java.nio.file.Path;
import java.util.ArrayList;
import java.util.Comparator;
import java.util.HashMap;
import java.util.List;
import java.util.Map;
import java.util.regex.Matcher;
import java.util.regex.Pattern;
import java.util.stream.Stream;
import javax.tools.ToolProvider;

/** README.md keeps its word: its code is compiled and run, and each answer that a comment there tells is asked for. */
public final class ReadmeTest {
    /** A line that tells an answer: its variable, and the number at the comment's beginning. */
    private static final Pattern TOLD = Pattern.compile("int (\\w+) = .*; +// (-?\\d+)\\b.*");

    private final StringBuilder members = new StringBuilder();
    private final StringBuilder body = new StringBuilder();
    private final List<String> names = new ArrayList<>();
    private final List<Long> wanted = new ArrayList<>();

    public static void main(String[] args) throws Exception {
        ReadmeTest test = new ReadmeTest();
        test.read();
        Path out = Files.createTempDirectory("readme");
        try {
            test.run(out);
        } finally {
            delete(out);
        }
        Due.end();
    }

    /** Blocks that begin with a static method are members; the others are one run, in their order. */
    private void read() throws Exception {
        List<String> block = null;
        for (String line : Files.readAllLines(Path.of("README.md"))) {
            if (line.equals("```java")) {
                block = new ArrayList<>();
            } else if (line.equals("```") && block != null) {
                take(block);
                block = null;
            } else if (block != null) {
                block.add(line);
            }
        }
        Due.due("README.md tells answers", names.size() >= 20 ? 1 : 0, 1);
    }

    private void take(List<String> block) {
        boolean member = block.get(0).startsWith("static ");
        for (String line : block) {
            (member ? members : body).append(line).append('\n');
            Matcher told = TOLD.matcher(line);
            if (told.matches()) {
                names.add(told.group(1));
                wanted.add(Long.parseLong(told.group(2)));
                body.append("got.put(\"").append(told.group(1)).append("\", ").append(told.group(1)).append(");\n");
            } else {
                Due.due("tells no answer: " + line, !member && line.startsWith("int ") ? 1 : 0, 0);
            }
        }
    }

    private void run(Path out) throws Exception {
        Path source = out.resolve("ReadmeCode.java");
        Files.writeString(source, "public final class ReadmeCode {\n" + members
            + "public static void run(java.util.Map<String, Integer> got) {\n" + body + "}\n}\n");
        int compiled = ToolProvider.getSystemJavaCompiler().run(null, null, null, "--release", "17",
            "-cp", System.getProperty("java.class.path"), "-d", out.toString(), source.toString());
        Due.due("javac of README.md's code", compiled, 0);
        if (compiled != 0) {
            return;
        }
        Map<String, Integer> got = new HashMap<>();
        try (URLClassLoader loader = new URLClassLoader(new URL[] {out.toUri().toURL()})) {
            loader.loadClass("ReadmeCode").getMethod("run", Map.class).invoke(null, got);
        }
        for (int i = 0; i < names.size(); i++) {
            Due.due("README.md: " + names.get(i), got.get(names.get(i)), wanted.get(i));
        }
    }

    private static void delete(Path directory) throws Exception {
        try (Stream<Path> all = Files.walk(directory)) {
            for (Path p : all.sorted(Comparator.reverseOrder()).toList()) {
                Files.delete(p);
            }
        }
    }
}
