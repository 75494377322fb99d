import java.util.HashSet;
import java.util.LinkedHashMap;
import java.util.LinkedHashSet;
import java.util.Map;
import java.util.Set;
import javax.lang.model.element.ExecutableElement;

/** Which methods of a source call which. */
final class CallGraph {
    private final Map<ExecutableElement, Set<ExecutableElement>> calls = new LinkedHashMap<>();

    void add(ExecutableElement method) {
        calls.computeIfAbsent(method, m -> new LinkedHashSet<>());
    }

    void add(ExecutableElement from, ExecutableElement to) {
        add(from);
        add(to);
        calls.get(from).add(to);
    }

    /** Those that call themselves, by others or at once. */
    Set<ExecutableElement> recursive() {
        Set<ExecutableElement> found = new LinkedHashSet<>();
        for (ExecutableElement method : calls.keySet()) {
            Set<ExecutableElement> reached = new HashSet<>();
            reach(method, reached);
            if (reached.contains(method)) {
                found.add(method);
            }
        }
        return found;
    }

    private void reach(ExecutableElement from, Set<ExecutableElement> reached) {
        for (ExecutableElement to : calls.get(from)) {
            if (reached.add(to)) {
                reach(to, reached);
            }
        }
    }

    /** How many calls stand open at most, a recursion taken as one. */
    int deepest() {
        int most = 0;
        for (ExecutableElement method : calls.keySet()) {
            most = Math.max(most, depth(method, new HashSet<>()));
        }
        return most;
    }

    private int depth(ExecutableElement method, Set<ExecutableElement> open) {
        if (!open.add(method)) {
            return 0;
        }
        int most = 0;
        for (ExecutableElement to : calls.get(method)) {
            most = Math.max(most, depth(to, open));
        }
        open.remove(method);
        return most + 1;
    }
}
