import java.io.IOException;
import java.lang.reflect.Method;
import java.lang.reflect.Modifier;
import java.net.URL;
import java.net.URLClassLoader;
import java.nio.file.Files;
import java.nio.file.Path;
import java.util.ArrayList;
import java.util.Comparator;
import java.util.List;
import java.util.regex.Matcher;
import java.util.regex.Pattern;
import java.util.stream.Stream;
import javax.tools.ToolProvider;

/** README.md tells each call, and its example answers what it says there. Run from the project's folder. */
public final class ReadmeTest {
    private static final Pattern EXAMPLE = Pattern.compile("(?s)```java\\n(.*?)```");
    private static final Pattern CALL =
            Pattern.compile("(int \\w+ = )?(room\\.\\w+\\(.*?\\)); +// (-?\\d+|DarkRoom\\.\\w+)\\b.*");

    private ReadmeTest() {
    }

    public static void main(String[] args) throws Exception {
        Check check = new Check();
        String readme = Files.readString(Path.of("README.md"));
        checkCalls(check, readme);
        checkTests(check, readme);
        checkExample(check, readme);
        check.end();
    }

    /** Each call of the face stands in a table, with as many names as it has parameters. */
    private static void checkCalls(Check check, String readme) {
        for (Method method : DarkRoom.class.getDeclaredMethods()) {
            if (Modifier.isPublic(method.getModifiers())) {
                String names = "\\w+, ".repeat(Math.max(0, method.getParameterCount() - 1))
                        + (method.getParameterCount() > 0 ? "\\w+" : "");
                Pattern row = Pattern.compile("(?m)^\\| `" + method.getName() + "\\(" + names + "\\)` \\|");
                check.holds("README.md tells " + method.getName(), row.matcher(readme).find());
            }
        }
        String[] constants = {"`BAD` | " + DarkRoom.BAD, "`NO` | " + DarkRoom.NO, "`FULL` | " + DarkRoom.FULL,
            "`NONE` | " + DarkRoom.NONE};
        for (String constant : constants) {
            check.holds("README.md tells " + constant, readme.contains("| " + constant + " |"));
        }
    }

    private static void checkTests(Check check, String readme) throws IOException {
        try (Stream<Path> files = Files.list(Path.of("src/test/java"))) {
            for (Path file : files.filter(one -> one.toString().endsWith("Test.java")).toList()) {
                String name = file.getFileName().toString().replace(".java", "");
                check.holds("README.md tells " + name, readme.contains("- `" + name + "`: "));
            }
        }
    }

    private static void checkExample(Check check, String readme) throws Exception {
        Matcher example = EXAMPLE.matcher(readme);
        check.holds("README.md has an example", example.find());
        List<String> told = new ArrayList<>();
        String program = program(check, example.group(1), told);
        Path place = Files.createTempDirectory("readme");
        try {
            Path source = Files.writeString(place.resolve("Example.java"), program);
            int compiled = ToolProvider.getSystemJavaCompiler().run(null, null, null, "-d", place.toString(),
                    "-cp", System.getProperty("java.class.path"), source.toString());
            check.due("the example compiles", compiled, 0);
            if (compiled == 0) {
                runExample(check, place, told);
            }
        } finally {
            remove(place);
        }
    }

    private static void runExample(Check check, Path place, List<String> told) throws Exception {
        try (URLClassLoader loader = new URLClassLoader(new URL[] {place.toUri().toURL()})) {
            int[] answers = (int[]) loader.loadClass("Example").getMethod("answers").invoke(null);
            check.due("calls of the example", answers.length, 2 * told.size());
            for (int i = 0; i < told.size(); i++) {
                check.due("README.md: " + told.get(i), answers[2 * i], answers[2 * i + 1]);
            }
        }
    }

    /** The example's lines, each call's answer kept beside what its comment tells. */
    private static String program(Check check, String example, List<String> told) {
        StringBuilder body = new StringBuilder();
        StringBuilder answers = new StringBuilder();
        for (String line : example.split("\n")) {
            Matcher call = CALL.matcher(line);
            if (call.matches()) {
                String kept = "answer" + told.size();
                body.append("int ").append(kept).append(" = ").append(call.group(2)).append(";\n");
                if (call.group(1) != null) {
                    body.append(call.group(1)).append(kept).append(";\n");
                }
                answers.append(kept).append(", ").append(call.group(3)).append(", ");
                told.add(call.group(2));
            } else {
                check.holds("README.md tells an answer: " + line, !line.contains("room."));
                body.append(line).append('\n');
            }
        }
        return "public final class Example { public static int[] answers() {\n" + body
                + "return new int[] {" + answers + "};\n} }\n";
    }

    private static void remove(Path place) throws IOException {
        try (Stream<Path> files = Files.walk(place)) {
            for (Path file : files.sorted(Comparator.reverseOrder()).toList()) {
                Files.delete(file);
            }
        }
    }
}
