import java.lang.reflect.InvocationTargetException;
import java.lang.reflect.Method;
import java.util.Arrays;
import java.util.Comparator;
import java.util.Set;
import java.util.TreeSet;

/** Runs every method of a class that says a sentence, so that none is written and then forgotten. */
final class Sentences {
    static final int MIN = Integer.MIN_VALUE, MAX = Integer.MAX_VALUE;
    /** Too small and too large for anything that the document counts; some wrap around to small numbers. */
    static final int[] FAR = {MIN, MIN + 1, -65536, -256, 256, 65536, MAX - 1, MAX};

    private Sentences() {
    }

    /** Each promise from first to last must have a sentence among them. */
    static void run(Class<?> tests, Due due, int first, int last) {
        Set<Integer> promises = new TreeSet<>();
        Method[] methods = tests.getDeclaredMethods();
        Arrays.sort(methods, Comparator.comparing(Method::getName));
        int sentences = 0;
        for (Method method : methods) {
            Says says = method.getAnnotation(Says.class);
            if (says != null) {
                promises.add(says.promise());
                sentences++;
                due.during(method.getName());
                invoke(method);
            }
        }
        due.during("sentences");
        for (int promise = first; promise <= last; promise++) {
            due.is("promise " + promise + " has a test", 1, promises.contains(promise) ? 1 : 0);
        }
        System.out.println(sentences + " sentences");
        due.end();
    }

    private static void invoke(Method method) {
        try {
            method.invoke(null);
        } catch (IllegalAccessException | InvocationTargetException e) {
            throw new IllegalStateException(method.getName(), e);
        }
    }

    /** A lock with so many boats, all from above with mail at 0, that cost 1 a minute. */
    static LockTurns boats(int n) {
        StringBuilder text = new StringBuilder();
        for (int b = 0; b < n; b++) {
            text.append("above mail 0 1 0;");
        }
        return Due.told(text.toString());
    }
}
