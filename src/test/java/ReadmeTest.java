import java.io.IOException;
import java.io.UncheckedIOException;
import java.net.URL;
import java.net.URLClassLoader;
import java.nio.file.Files;
import java.nio.file.Path;
import java.util.ArrayList;
import java.util.List;
import java.util.Map;
import java.util.regex.Matcher;
import java.util.regex.Pattern;
import javax.tools.ToolProvider;

/** The Java of README.md, compiled as it stands there: each call answers what README.md says behind it. */
final class ReadmeTest {
    private static final Checks CHECKS = new Checks("ReadmeTest");
    private static final Pattern CALL = Pattern.compile("(\\S.*);\\s+// ([^:]+)(: .*)?");
    private static final Pattern ANSWER = Pattern.compile("\\| `([^`]+)` \\| (-?\\d+) \\|.*");
    private static final Map<String, Long> WORDS = Map.of("REFUSED", (long) ArrayVault.REFUSED, "NONE", (long) ArrayVault.NONE,
        "FULL", (long) ArrayVault.FULL, "THERE", (long) ArrayVault.THERE, "2^40", Checks.NULL_CELL, "2^40 + 1", Checks.NO_CELL,
        "2^62", Checks.NULL_ANSWER, "2^62 + 1", Checks.NO_ANSWER);
    private static final String[] FACE = {"feed", "end", "make", "set", "fill", "wipe", "commit", "open", "drop", "differ", "get",
        "query", "rows", "cell", "count"};

    private final List<String> methods = new ArrayList<>();
    private final List<String> body = new ArrayList<>();
    private final List<String> calls = new ArrayList<>();
    private final List<Long> due = new ArrayList<>();

    public static void main(String[] args) throws Exception {
        List<String> lines = Files.readAllLines(Path.of("README.md"));
        ReadmeTest test = new ReadmeTest();
        test.readJava(lines);
        test.compareAnswers();
        tableOfAnswers(lines);
        CHECKS.close();
    }

    /** A block that begins with a method has methods alone; of the others each line is a call or makes an object. */
    private void readJava(List<String> lines) {
        for (int i = 0; i < lines.size(); i++) {
            if (lines.get(i).equals("```java")) {
                List<String> block = new ArrayList<>();
                for (i++; !lines.get(i).equals("```"); i++) {
                    block.add(lines.get(i));
                }
                if (block.get(0).startsWith("static ")) {
                    methods.addAll(block);
                } else {
                    block.forEach(this::readCall);
                }
            }
        }
        for (String name : FACE) {
            yes("README.md shows " + name, calls.stream().anyMatch(c -> c.startsWith("vault." + name + "(")));
        }
    }

    private void readCall(String line) {
        Matcher call = CALL.matcher(line);
        if (call.matches()) {
            calls.add(call.group(1));
            body.add("answers.add((long) " + call.group(1) + ");");
            String answer = call.group(2).strip();
            due.add(WORDS.containsKey(answer) ? WORDS.get(answer) : Long.valueOf(answer));
        } else {
            yes("README.md tells the answer of " + line, line.equals("ArrayVault vault = new ArrayVault();"));
            body.add(line);
        }
    }

    private void compareAnswers() throws Exception {
        Path out = Files.createTempDirectory("readme");
        try {
            List<?> answers = run(out);
            CHECKS.due("calls of README.md", answers.size(), calls.size());
            for (int i = 0; i < answers.size(); i++) {
                CHECKS.due("call " + i + " of README.md, " + calls.get(i), (Long) answers.get(i), due.get(i));
            }
        } finally {
            delete(out);
        }
    }

    private List<?> run(Path out) throws Exception {
        Path file = out.resolve("Readme.java");
        Files.writeString(file, "import java.util.ArrayList;\nimport java.util.List;\npublic final class Readme {\n"
            + "public static List<Long> answers() {\nList<Long> answers = new ArrayList<>();\n" + String.join("\n", body)
            + "\nreturn answers;\n}\n" + String.join("\n", methods) + "\n}\n");
        int code = ToolProvider.getSystemJavaCompiler().run(null, null, null, "-cp", System.getProperty("java.class.path"), "-d",
            out.toString(), file.toString());
        yes("the Java of README.md compiles", code == 0);
        if (code != 0) {
            return List.of();
        }
        try (URLClassLoader loader = new URLClassLoader(new URL[] {out.toUri().toURL()})) {
            return (List<?>) loader.loadClass("Readme").getMethod("answers").invoke(null);
        }
    }

    private static void delete(Path folder) throws IOException {
        try (var files = Files.list(folder)) {
            files.forEach(file -> {
                try {
                    Files.delete(file);
                } catch (IOException e) {
                    throw new UncheckedIOException(e);
                }
            });
        }
        Files.delete(folder);
    }

    /** The numbers that the table tells are those of the constants, and it has them all. */
    private static void tableOfAnswers(List<String> lines) {
        int found = 0;
        for (String line : lines) {
            Matcher answer = ANSWER.matcher(line);
            if (answer.matches()) {
                found++;
                yes("a word of the answers: " + answer.group(1), WORDS.containsKey(answer.group(1)));
                CHECKS.due(answer.group(1), WORDS.getOrDefault(answer.group(1), 0L), Long.parseLong(answer.group(2)));
            }
        }
        CHECKS.due("answers in the table", found, WORDS.size());
    }

    private static void yes(String what, boolean got) {
        CHECKS.due(what, got ? 1 : 0, 1);
    }
}
