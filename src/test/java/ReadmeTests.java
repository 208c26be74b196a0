import java.io.IOException;
import java.lang.reflect.Method;
import java.lang.reflect.Modifier;
import java.net.URL;
import java.net.URLClassLoader;
import java.nio.file.Files;
import java.nio.file.Path;
import java.util.ArrayList;
import java.util.List;
import java.util.regex.Matcher;
import java.util.regex.Pattern;
import java.util.stream.Stream;
import javax.tools.ToolProvider;

/** README.md tells every call, every answer below 0 and every test, and its example answers what it says. */
public final class ReadmeTests {
    private static final Pattern CALL = Pattern.compile("(x\\..*\\)); +// (-?\\d+|[A-Z]+): .+");
    private static final Due due = new Due();

    public static void main(String[] args) throws IOException, ReflectiveOperationException {
        String readme = Files.readString(Path.of("README.md"));
        everyCallIsTold(readme);
        everyAnswerBelowZeroIsTold(readme);
        everyTestIsTold(readme);
        exampleIsRight(readme);
        due.end();
    }

    private static void everyCallIsTold(String readme) {
        due.part("calls in README.md");
        for (Method method : NotePress.class.getDeclaredMethods()) {
            if (Modifier.isPublic(method.getModifiers())) {
                Matcher row = Pattern.compile("\\| `" + method.getName() + "\\(([^)]*)\\)` \\|").matcher(readme);
                boolean found = row.find();
                due.holds(method.getName() + " has no row", found);
                due.is("parameters of " + method.getName(), found ? parameters(row.group(1)) : -1,
                    method.getParameterCount());
            }
        }
    }

    private static int parameters(String list) {
        return list.isEmpty() ? 0 : list.split(",").length;
    }

    private static void everyAnswerBelowZeroIsTold(String readme) {
        due.part("answers below 0 in README.md");
        int last = -1;
        // The document's order of several, which the table claims to have.
        for (String row : new String[] {"| `BAD` | " + NotePress.BAD, "| `NO` | " + NotePress.NO,
            "| `NONE` | " + NotePress.NONE, "| `FULL` | " + NotePress.FULL}) {
            int at = readme.indexOf(row + " |");
            due.holds("no row " + row + ", or not in the order", at > last);
            last = at;
        }
        due.holds("STAR is not told", readme.contains("`STAR` (" + NotePress.STAR + ")"));
    }

    private static void everyTestIsTold(String readme) throws IOException {
        due.part("tests in README.md");
        due.holds(".ci/run is not told", readme.contains("    .ci/run\n"));
        try (Stream<Path> files = Files.list(Path.of("src/test/java"))) {
            for (Path file : files.toList()) {
                String name = file.getFileName().toString().replace(".java", "");
                due.holds(name + " is not told", !name.endsWith("Tests") || readme.contains("- `" + name + "`: "));
            }
        }
    }

    private static void exampleIsRight(String readme) throws IOException, ReflectiveOperationException {
        due.part("example in README.md");
        int start = readme.indexOf("```java\n");
        int end = readme.indexOf("```\n", start + 1);
        due.holds("there is no example", start >= 0 && end > start);
        if (start < 0 || end <= start) {
            return;
        }
        List<String> calls = new ArrayList<>();
        List<Integer> told = new ArrayList<>();
        StringBuilder body = new StringBuilder();
        for (String line : readme.substring(start, end).split("\n")) {
            Matcher call = CALL.matcher(line);
            if (call.matches()) {
                calls.add(call.group(1));
                told.add(valueOf(call.group(2)));
                body.append("got.add(").append(call.group(1)).append(");\n");
            } else if (!line.startsWith("```")) {
                due.holds("no answer is told: " + line, !line.startsWith("x."));
                body.append(line).append('\n');
            }
        }
        List<?> got = answersOf(body.toString());
        due.is("calls with an answer", got.size(), calls.size());
        for (int i = 0; i < Math.min(got.size(), calls.size()); i++) {
            due.is(calls.get(i), (Integer) got.get(i), told.get(i));
        }
        everyCallIsShown(readme.substring(start, end));
    }

    private static void everyCallIsShown(String example) {
        for (Method method : NotePress.class.getDeclaredMethods()) {
            due.holds(method.getName() + " is not shown", !Modifier.isPublic(method.getModifiers())
                || example.contains("x." + method.getName() + "("));
        }
    }

    private static int valueOf(String answer) throws ReflectiveOperationException {
        return answer.matches("[A-Z]+") ? NotePress.class.getField(answer).getInt(null) : Integer.parseInt(answer);
    }

    /** What the example's calls answer; an empty list if it does not compile. */
    private static List<?> answersOf(String body) throws IOException, ReflectiveOperationException {
        Path dir = Files.createTempDirectory("readme");
        Path source = dir.resolve("Example.java");
        Path compiled = dir.resolve("Example.class");
        try {
            Files.writeString(source, "public final class Example {\npublic static java.util.List<Integer> answers() {\n"
                + "java.util.List<Integer> got = new java.util.ArrayList<>();\n" + body + "return got;\n}\n}\n");
            int failed = ToolProvider.getSystemJavaCompiler().run(null, null, null, "-cp",
                System.getProperty("java.class.path"), "-d", dir.toString(), source.toString());
            due.is("the compiler", failed, 0);
            return failed == 0 ? runIn(dir) : List.of();
        } finally {
            Files.deleteIfExists(compiled);
            Files.deleteIfExists(source);
            Files.deleteIfExists(dir);
        }
    }

    private static List<?> runIn(Path dir) throws IOException, ReflectiveOperationException {
        try (URLClassLoader loader = new URLClassLoader(new URL[] {dir.toUri().toURL()})) {
            return (List<?>) loader.loadClass("Example").getMethod("answers").invoke(null);
        }
    }
}
