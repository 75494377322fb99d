import java.io.IOException;
import java.lang.reflect.Constructor;
import java.lang.reflect.Field;
import java.lang.reflect.Method;
import java.lang.reflect.Modifier;
import java.nio.file.Files;
import java.nio.file.Path;
import java.util.ArrayList;
import java.util.List;
import java.util.Map;
import java.util.Set;
import java.util.TreeMap;
import java.util.TreeSet;
import java.util.regex.Matcher;
import java.util.regex.Pattern;
import java.util.stream.Stream;

/** The class has the document's face and no more; each word of the terms and the promises is quoted by a test. */
public final class DocumentTest {
    private static final int PROMISES = 39;
    private static final Path DOCUMENT = Path.of("../shared/DOC.md");
    private static final Path TESTS = Path.of("src/test/java");
    private static final List<Class<?>> QUOTING = List.of(TermsTest.class, PromisesTest.class, TextBoundsTest.class,
            ChangeBoundsTest.class, DayBoundsTest.class, LawBoundsTest.class, KeeperBoundsTest.class,
            SheetBoundsTest.class);
    private static final Due due = new Due();

    public static void main(String[] args) throws IOException {
        String document = Files.readString(DOCUMENT).replaceAll("\\s+", " ");
        face(between(document, "## The public face", "## Terms"));
        promisesNameTheFace(document);
        Map<Integer, String> parts = parts(document);
        allThatQuoteAreKnown();
        for (int promise = 0; promise <= PROMISES; promise++) {
            allIsQuoted(promise, parts.get(promise));
        }
        due.end();
    }

    private static String between(String text, String from, String to) {
        int start = text.indexOf(from);
        int end = text.indexOf(to, start + 1);
        due.holds(from + " .. " + to + " stands in the document", start >= 0 && end >= 0);
        return start >= 0 && end >= 0 ? text.substring(start + from.length(), end) : "";
    }

    // ---- the face

    private static void face(String shown) {
        due.during("the public face");
        List<String> told = new ArrayList<>();
        Matcher call = Pattern.compile("public (\\w+) (\\w+)\\(([^)]*)\\);").matcher(shown);
        while (call.find()) {
            told.add(call.group(1) + " " + call.group(2) + "(" + call.group(3).replaceAll("(\\w+) \\w+", "$1") + ")");
        }
        due.is("calls", 38, told.size());
        due.holds("the class is public and final",
                LockTurns.class.getModifiers() == (Modifier.PUBLIC | Modifier.FINAL));
        Set<String> has = new TreeSet<>();
        for (Method method : LockTurns.class.getDeclaredMethods()) {
            if (!Modifier.isPrivate(method.getModifiers())) {
                has.add(signature(method));
                due.holds(method + " is public alone", method.getModifiers() == Modifier.PUBLIC);
            }
        }
        due.holds("told: " + told + ", there are " + has, has.equals(new TreeSet<>(told)));
        Constructor<?>[] constructors = LockTurns.class.getDeclaredConstructors();
        due.holds("one public constructor", constructors.length == 1
                && constructors[0].getModifiers() == Modifier.PUBLIC && constructors[0].getParameterCount() == 0);
        constants(shown);
    }

    private static String signature(Method method) {
        List<String> types = Stream.of(method.getParameterTypes()).map(Class::getName).toList();
        return method.getReturnType() + " " + method.getName() + "(" + String.join(", ", types) + ")";
    }

    private static void constants(String shown) {
        Set<String> told = new TreeSet<>();
        Matcher constant = Pattern.compile("([A-Z]+) = (-?\\d+)").matcher(shown);
        while (constant.find()) {
            told.add("int " + constant.group(1) + " " + constant.group(2));
        }
        due.is("constants", 4, told.size());
        Set<String> has = new TreeSet<>();
        for (Field field : LockTurns.class.getDeclaredFields()) {
            if (!Modifier.isPrivate(field.getModifiers())) {
                due.holds(field + " is a constant",
                        field.getModifiers() == (Modifier.PUBLIC | Modifier.STATIC | Modifier.FINAL));
                has.add(field.getType() + " " + field.getName() + " " + value(field));
            }
        }
        due.holds("told: " + told + ", there are " + has, has.equals(told));
    }

    private static Object value(Field constant) {
        try {
            return constant.get(null);
        } catch (IllegalAccessException e) {
            throw new IllegalStateException(e);
        }
    }

    private static void promisesNameTheFace(String document) {
        Set<String> promised = new TreeSet<>();
        Matcher heading = Pattern.compile("## Promise (\\d+): \\S[^`]*`(?:\\w+ )?(\\w+)\\(").matcher(document);
        int last = 0;
        while (heading.find()) {
            due.is("promises by order", last + 1, Integer.parseInt(heading.group(1)));
            last++;
            promised.add(heading.group(2));
        }
        due.is("promises", PROMISES, last);
        Set<String> has = new TreeSet<>(Set.of("LockTurns"));
        for (Method method : LockTurns.class.getDeclaredMethods()) {
            if (Modifier.isPublic(method.getModifiers())) {
                has.add(method.getName());
            }
        }
        due.holds("promised: " + promised + ", there are " + has, has.equals(promised));
    }

    // ---- the sentences

    /** By promise; 0 are the terms and how often an object is used. */
    private static Map<Integer, String> parts(String document) {
        Map<Integer, String> parts = new TreeMap<>();
        String use = between(document, "whose faults the machine finds. ", "## The public face");
        String terms = between(document, "## Terms ", "Ahead of the calls `feed`");
        parts.put(0, (use + terms).replaceAll("```(text)?|======== \\d", " ").replaceAll("\\s+", " "));
        for (int promise = 1; promise <= PROMISES; promise++) {
            String next = promise < PROMISES ? "## Promise " + (promise + 1) + ":" : "## Not promised";
            parts.put(promise, between(document, "## Promise " + promise + ": ", next).replaceFirst("^.*?`.*?`: ", ""));
        }
        return parts;
    }

    private static void allThatQuoteAreKnown() throws IOException {
        due.during("tests");
        try (Stream<Path> files = Files.list(TESTS)) {
            for (Path file : files.filter(f -> f.toString().endsWith("Test.java")).toList()) {
                String name = file.getFileName().toString().replace(".java", "");
                boolean quotes = Files.readString(file).contains("\n    @Says(");
                boolean isKnown = QUOTING.stream().anyMatch(c -> c.getName().equals(name));
                due.holds(name + " is asked what it quotes", quotes == isKnown);
            }
        }
    }

    private static void allIsQuoted(int promise, String part) {
        due.during(promise == 0 ? "Terms" : "Promise " + promise);
        boolean[] quoted = new boolean[part.length()];
        for (Class<?> tests : QUOTING) {
            for (Method method : tests.getDeclaredMethods()) {
                Says says = method.getAnnotation(Says.class);
                if (says != null && says.promise() == promise) {
                    int at = part.indexOf(says.value());
                    due.holds("'" + says.value() + "' stands there (" + tests + ")", at >= 0);
                    for (int i = Math.max(at, 0); at >= 0 && i < at + says.value().length(); i++) {
                        quoted[i] = true;
                    }
                }
            }
        }
        due.none("no test quotes", notQuoted(part, quoted));
    }

    private static List<String> notQuoted(String part, boolean[] quoted) {
        StringBuilder rest = new StringBuilder();
        for (int i = 0; i < part.length(); i++) {
            rest.append(quoted[i] ? '\n' : part.charAt(i));
        }
        return rest.toString().lines().filter(line -> !line.isBlank()).toList();
    }
}
