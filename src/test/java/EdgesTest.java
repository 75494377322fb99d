import java.lang.reflect.InvocationTargetException;
import java.lang.reflect.Method;
import java.lang.reflect.Modifier;
import java.util.Arrays;
import java.util.Comparator;

/** Every call with every mixture of numbers at and beyond its bounds, on the class and on the model. */
public final class EdgesTest {
    private static final int[] FEW = {Integer.MIN_VALUE, -1, 0, 1, 2, 3, 5, 6, 10, 40, Integer.MAX_VALUE};
    private static final int[] MANY = {Integer.MIN_VALUE, Integer.MIN_VALUE + 9, -2, -1, 0, 1, 2, 3, 4, 5, 6, 7, 8, 9, 10,
        11, 12, 15, 16, 20, 21, 40, 41, 99, 100, 127, 128, Integer.MAX_VALUE - 1, Integer.MAX_VALUE};
    private static final String[] STATES = {
        "",
        "below coal 99 9 9;",
        "above mail 3 1 9;below beer 0 9 0;liar 1;law twos;post 9;",
        "lock 9 9 1;above mail 9 1 2;below fish 1 2 9;above beer 0 3 0;below coal 5 4 4;above coal 1 5 3;"
            + "below mail 3 9 1;law cargo;hand;liar 4;liar 1;"};
    /** An object is made anew in time: what it answers behind its 512th call is free. */
    private static final int CALLS = 500;
    private static final Due due = new Due();

    private final String state;
    private final boolean rich;
    private LockTurns x;
    private Model m;
    private int calls;

    private EdgesTest(String state, boolean rich) {
        this.state = state;
        this.rich = rich;
    }

    public static void main(String[] args) throws ReflectiveOperationException {
        Method[] methods = LockTurns.class.getDeclaredMethods();
        Arrays.sort(methods, Comparator.comparing(Method::getName));
        for (String state : STATES) {
            for (boolean rich : new boolean[] {false, true}) {
                EdgesTest test = new EdgesTest(state, rich);
                test.renew();
                for (Method method : methods) {
                    if (Modifier.isPublic(method.getModifiers())) {
                        test.everyMixture(method);
                    }
                }
            }
        }
        due.end();
    }

    private void renew() {
        x = new LockTurns();
        m = new Model();
        calls = 0;
        feed(state);
        due.is("text()", m.text(), x.text());
        if (rich) {
            enrich();
        }
    }

    private void feed(String text) {
        for (int i = 0; i < text.length(); i++) {
            due.is("feed", m.feed(text.charAt(i)), x.feed(text.charAt(i)));
            calls++;
        }
    }

    /** Rows of each lane, some images, some seen, a few bytes. */
    private void enrich() {
        for (int k = 0; k < 3; k++) {
            due.is("sheet", m.sheet(k, k, 6), x.sheet(k, k, 6));
            for (int i = 0; i < 6; i++) {
                due.is("lay", m.lay(k, i, i / 2), x.lay(k, i, i / 2));
            }
        }
        due.is("see", m.see(0, 0), x.see(0, 0));
        due.is("keep", m.keep(1), x.keep(1));
        due.is("set", m.set(3, 3), x.set(3, 3));
        feed("post 9;");
        calls += 25;
    }

    private void everyMixture(Method method) throws ReflectiveOperationException {
        Class<?>[] types = method.getParameterTypes();
        Method same = Model.class.getDeclaredMethod(method.getName(), types);
        int[] edges = types.length > 1 ? FEW : MANY;
        int mixtures = 1;
        for (int i = 0; i < types.length; i++) {
            mixtures *= edges.length;
        }
        for (int mixture = 0; mixture < mixtures; mixture++) {
            Object[] arguments = new Object[types.length];
            int rest = mixture;
            for (int i = 0; i < types.length; i++) {
                int edge = edges[rest % edges.length];
                rest /= edges.length;
                arguments[i] = types[i] == boolean.class ? (Object) (edge > 0) : (Object) edge;
            }
            if (calls > CALLS) {
                renew();
            }
            String call = method.getName() + Arrays.toString(arguments);
            due.is(call, ((Number) same.invoke(m, arguments)).longValue(), answer(method, call, arguments));
            due.is("torn() behind " + call, m.torn(), x.torn());
            calls += 2;
        }
    }

    private long answer(Method method, String call, Object[] arguments) throws IllegalAccessException {
        try {
            return ((Number) method.invoke(x, arguments)).longValue();
        } catch (InvocationTargetException e) {
            System.out.println(call + " threw " + e.getCause());
            return Long.MIN_VALUE;
        }
    }
}
