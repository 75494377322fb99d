import java.lang.reflect.InvocationTargetException;
import java.lang.reflect.Method;
import java.lang.reflect.Modifier;
import java.util.Arrays;
import java.util.Comparator;

/** Every call with every mixture of numbers at and beyond its bounds, on the class and on the model. */
public final class EdgesTest {
    private static final int[] FEW = {Integer.MIN_VALUE, -1, 0, 1, 2, 3, 5, 6, 10, 40, Integer.MAX_VALUE};
    private static final int[] MANY = {Integer.MIN_VALUE, Integer.MIN_VALUE + 9, -2, -1, 0, 1, 2, 3, 4, 5, 6, 7, 8, 9, 10,
        11, 12, 15, 16, 20, 21, 40, 41, 99, 100, 127, 128, Integer.MAX_VALUE - 1, Integer.MAX_VALUE};
    private static final String[] STATES = {
        "",
        "below coal 99 9 9;",
        "above mail 3 1 9;below beer 0 9 0;liar 1;law twos;post 9;",
        "lock 9 9 1;above mail 9 1 2;below fish 1 2 9;above beer 0 3 0;below coal 5 4 4;above coal 1 5 3;"
            + "below mail 3 9 1;law cargo;hand;liar 4;liar 1;"};
    private static final Due due = new Due();

    public static void main(String[] args) throws ReflectiveOperationException {
        for (String state : STATES) {
            LockTurns x = new LockTurns();
            Model m = new Model();
            for (int i = 0; i < state.length(); i++) {
                x.feed(state.charAt(i));
                m.feed(state.charAt(i));
            }
            Method[] methods = LockTurns.class.getDeclaredMethods();
            Arrays.sort(methods, Comparator.comparing(Method::getName));
            for (int round = 0; round < 2; round++) {
                due.is("text()", m.text(), x.text());
                for (Method method : methods) {
                    if (Modifier.isPublic(method.getModifiers()) && !method.getName().equals("text")) {
                        everyMixture(x, m, method);
                    }
                }
                refill(x, m, state);
            }
        }
        due.end();
    }

    private static void refill(LockTurns x, Model m, String state) {
        x.end(0);
        m.end(0);
        for (int i = 0; i < state.length(); i++) {
            x.feed(state.charAt(i));
            m.feed(state.charAt(i));
        }
    }

    private static void everyMixture(LockTurns x, Model m, Method method) throws ReflectiveOperationException {
        Class<?>[] types = method.getParameterTypes();
        Method same = Model.class.getDeclaredMethod(method.getName(), types);
        int[] edges = types.length > 1 ? FEW : MANY;
        int mixtures = 1;
        for (int i = 0; i < types.length; i++) {
            mixtures *= edges.length;
        }
        for (int mixture = 0; mixture < mixtures; mixture++) {
            Object[] arguments = new Object[types.length];
            int rest = mixture;
            for (int i = 0; i < types.length; i++) {
                int edge = edges[rest % edges.length];
                rest /= edges.length;
                arguments[i] = types[i] == boolean.class ? (Object) (edge > 0) : (Object) edge;
            }
            String call = method.getName() + Arrays.toString(arguments);
            due.is(call, ((Number) same.invoke(m, arguments)).longValue(), answer(x, method, call, arguments));
            due.is("torn() behind " + call, m.torn(), x.torn());
        }
    }

    private static long answer(LockTurns x, Method method, String call, Object[] arguments)
            throws IllegalAccessException {
        try {
            return ((Number) method.invoke(x, arguments)).longValue();
        } catch (InvocationTargetException e) {
            System.out.println(call + " threw " + e.getCause());
            return Long.MIN_VALUE;
        }
    }
}
