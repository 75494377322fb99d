import java.io.IOException;
import java.lang.reflect.Method;
import java.net.URL;
import java.net.URLClassLoader;
import java.nio.file.Files;
import java.nio.file.Path;
import java.util.Comparator;
import java.util.List;
import java.util.Map;
import java.util.Set;
import java.util.TreeSet;
import java.util.regex.Matcher;
import java.util.regex.Pattern;
import java.util.stream.Stream;
import javax.tools.ToolProvider;

/** What README.md shows as an answer is what the class answers: its examples are compiled and run. */
public final class ReadmeTest {
    private static final Pattern BLOCK = Pattern.compile("```java\n(.*?)```", Pattern.DOTALL);
    private static final Pattern SHOWN = Pattern.compile("(x\\.(\\w+)\\(.*?\\));\\s*// (-?\\d+)\\b.*");
    private static final Pattern CONSTANT = Pattern.compile("`(BAD|STATE|FULL|NONE)` \\((-?\\d+)\\)");
    private static final Due due = new Due();

    public static void main(String[] args) throws IOException, ReflectiveOperationException {
        String readme = Files.readString(Path.of("README.md"));
        constants(readme);
        everyTestIsNamed(readme);
        Path out = Files.createTempDirectory("readme");
        try {
            examples(readme, out);
        } finally {
            remove(out);
        }
        due.end();
    }

    private static void constants(String readme) {
        Map<String, Integer> are = Map.of("BAD", LockTurns.BAD, "STATE", LockTurns.STATE, "FULL", LockTurns.FULL,
                "NONE", LockTurns.NONE);
        Set<String> shown = new TreeSet<>();
        Matcher constant = CONSTANT.matcher(readme);
        while (constant.find()) {
            shown.add(constant.group(1));
            due.is(constant.group(1), are.get(constant.group(1)), Integer.parseInt(constant.group(2)));
        }
        due.is("constants that are shown", are.size(), shown.size());
    }

    private static void everyTestIsNamed(String readme) throws IOException {
        try (Stream<Path> files = Files.list(Path.of("src/test/java"))) {
            for (Path file : files.toList()) {
                due.holds(file + " is named", readme.contains("`" + file.getFileName() + "`"));
            }
        }
    }

    private static void examples(String readme, Path out) throws IOException, ReflectiveOperationException {
        StringBuilder body = new StringBuilder();
        Set<String> calls = new TreeSet<>();
        Matcher block = BLOCK.matcher(readme);
        while (block.find()) {
            for (String line : block.group(1).split("\n")) {
                Matcher shown = SHOWN.matcher(line.strip());
                boolean isShown = shown.matches();
                due.holds("'" + line + "' is read as it is meant", isShown || !line.contains("//"));
                body.append(isShown ? asked(shown) : line).append('\n');
                if (isShown) {
                    calls.add(shown.group(2));
                }
            }
        }
        for (Method method : LockTurns.class.getDeclaredMethods()) {
            boolean isFace = (method.getModifiers() & java.lang.reflect.Modifier.PUBLIC) != 0;
            due.holds(method.getName() + "() is shown", !isFace || calls.contains(method.getName()));
        }
        for (String[] answer : run(body.toString(), out)) {
            due.is(answer[0], Long.parseLong(answer[1]), Long.parseLong(answer[2]));
        }
    }

    /** The line keeps the call, its answer and the one that is shown, each as a text. */
    private static String asked(Matcher shown) {
        return "answers.add(new String[] {\"" + shown.group(1).replace("\"", "\\\"") + "\", \"" + shown.group(3)
                + "\", \"\" + " + shown.group(1) + "});";
    }

    @SuppressWarnings("unchecked")
    private static List<String[]> run(String body, Path out) throws IOException, ReflectiveOperationException {
        Path source = out.resolve("Examples.java");
        Files.writeString(source, "public final class Examples { public static java.util.List<String[]> run() {\n"
                + "java.util.List<String[]> answers = new java.util.ArrayList<>();\n" + body + "return answers; } }\n");
        int failed = ToolProvider.getSystemJavaCompiler().run(null, null, null, "-cp",
                System.getProperty("java.class.path"), "-d", out.toString(), source.toString());
        due.is("the examples compile", 0, failed);
        if (failed != 0) {
            return List.of();
        }
        try (URLClassLoader loader = new URLClassLoader(new URL[] {out.toUri().toURL()})) {
            return (List<String[]>) loader.loadClass("Examples").getMethod("run").invoke(null);
        }
    }

    private static void remove(Path dir) throws IOException {
        try (Stream<Path> files = Files.walk(dir)) {
            for (Path file : files.sorted(Comparator.reverseOrder()).toList()) {
                Files.delete(file);
            }
        }
    }
}
