import java.io.IOException;
import java.lang.reflect.Constructor;
import java.lang.reflect.Field;
import java.lang.reflect.Method;
import java.lang.reflect.Modifier;
import java.nio.file.Files;
import java.nio.file.Path;
import java.util.Arrays;
import java.util.List;
import java.util.Set;
import java.util.TreeSet;
import java.util.regex.Matcher;
import java.util.regex.Pattern;

/** The face of the class, and those rules of LANGUAGE.md that can be seen from the class file or the words. */
public final class LanguageTest {
    private static final List<String> FACE = List.of("int feed(int)", "int end(int)", "int text()", "int fault()",
            "int rule(int)", "int boat(int,int)", "int set(int,int)", "int alter(int,int,int)", "int lie(int,boolean)",
            "int cross(int)", "int passes(int)", "int through(int)", "int stood(int)", "int day(int)",
            "int table(int,int)", "int best(int)", "int order(int)", "int firsts(int)", "int gain(int)", "int calm()",
            "int rests(int)", "int boy(int,int)", "int post(int)", "int late(int)", "int deal(int,int,int)",
            "long mean(int,int,int)", "long luck(int,int,int,int)", "int see(int,int)", "int forget(int)",
            "int fits(int)", "int drift(int,int,int)", "int keep(int)", "int back(int)", "int sheet(int,int,int)",
            "int lay(int,int,int)", "int read(int,int,int,int)", "int torn()", "int count(int)");
    private static final List<String> CONSTANTS = List.of("BAD", "STATE", "FULL", "NONE");
    private static final Due due = new Due();

    public static void main(String[] args) throws IOException {
        face();
        classesInside();
        words(Files.readString(Path.of("src/main/java/LockTurns.java")));
        due.end();
    }

    private static void holds(String what, boolean is) {
        due.is(what, 1, is ? 1 : 0);
    }

    private static String signature(Method method) {
        StringBuilder s = new StringBuilder(method.getReturnType() + " " + method.getName() + "(");
        for (Class<?> type : method.getParameterTypes()) {
            s.append(s.charAt(s.length() - 1) == '(' ? "" : ",").append(type);
        }
        return s.append(')').toString();
    }

    private static void face() {
        Set<String> shown = new TreeSet<>();
        Set<String> hiddenNames = new TreeSet<>();
        Set<String> shownNames = new TreeSet<>();
        for (Method method : LockTurns.class.getDeclaredMethods()) {
            boolean isPrivate = Modifier.isPrivate(method.getModifiers());
            (isPrivate ? hiddenNames : shownNames).add(method.getName());
            if (!isPrivate) {
                shown.add(signature(method));
                holds(method + " is public and not static", method.getModifiers() == Modifier.PUBLIC);
            }
            holds(method + " takes at most seven", method.getParameterCount() <= 7);
        }
        holds("the face is " + FACE + ", not " + shown, shown.equals(new TreeSet<>(FACE)));
        hiddenNames.retainAll(shownNames);
        holds("no private method bears a public name: " + hiddenNames, hiddenNames.isEmpty());
        for (Field field : LockTurns.class.getDeclaredFields()) {
            boolean isPrivate = Modifier.isPrivate(field.getModifiers());
            holds(field + " is of the face or private", isPrivate != CONSTANTS.contains(field.getName()));
        }
        Constructor<?>[] constructors = LockTurns.class.getDeclaredConstructors();
        holds("one public constructor", constructors.length == 1
                && constructors[0].getModifiers() == Modifier.PUBLIC && constructors[0].getParameterCount() == 0);
        holds("public final", LockTurns.class.getModifiers() == (Modifier.PUBLIC | Modifier.FINAL));
    }

    private static void classesInside() {
        Class<?>[] inside = LockTurns.class.getDeclaredClasses();
        holds("at most twelve classes", inside.length < 12);
        for (Class<?> c : inside) {
            holds(c + " is static", Modifier.isStatic(c.getModifiers()));
            holds(c + " is not public", !Modifier.isPublic(c.getModifiers()));
            for (Field field : c.getDeclaredFields()) {
                holds(field + " is no static state", !Modifier.isStatic(field.getModifiers())
                        || Modifier.isFinal(field.getModifiers()));
            }
            for (Method method : c.getDeclaredMethods()) {
                holds(method + " takes at most seven", method.getParameterCount() <= 7);
                holds(method + " bears no name of the face",
                        Arrays.stream(LockTurns.class.getMethods()).noneMatch(m -> m.getName().equals(method.getName())));
            }
        }
    }

    private static void words(String source) {
        String code = source.replaceAll("(?s)/\\*.*?\\*/", "").replaceAll("//[^\n]*", "")
                .replaceAll("\"[^\"\n]*\"", "\"\"");
        Matcher word = Pattern.compile("\\b(throw|throws|try|catch|synchronized|assert|package|volatile|transient|"
                + "native|var|instanceof|Object|Exception|Thread|Random|hashCode|toString|float|double)\\b").matcher(code);
        while (word.find()) {
            holds("no '" + word.group() + "' in the code", false);
        }
        holds("no lambda, no method reference", !code.contains("->") && !code.contains("::"));
        holds("no static initialiser", !Pattern.compile("static\\s*\\{").matcher(code).find());
        holds("no name that ends in Exact", !code.contains("Exact("));
        Matcher library = Pattern.compile("\\b(?:import\\s+(\\S+);|(System|Arrays|Math|Integer|Long)\\.(\\w+))").matcher(code);
        List<String> allowed = List.of("System.arraycopy", "Arrays.fill", "Math.max", "Math.min", "Integer.bitCount",
                "Integer.MAX_VALUE");
        while (library.find()) {
            if (library.group(1) != null) {
                holds("import " + library.group(1), library.group(1).equals("java.util.Arrays"));
            } else {
                String call = library.group(2) + "." + library.group(3);
                holds(call + " is of the library told", allowed.contains(call));
            }
        }
        holds("signs 9 to 126 alone", source.chars().allMatch(c -> c == '\n' || c >= 32 && c < 127));
    }
}
