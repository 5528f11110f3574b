import java.util.HashMap;
import java.util.HashSet;
import java.util.LinkedHashSet;
import java.util.Map;
import java.util.Set;
import java.util.TreeSet;
import javax.lang.model.element.ExecutableElement;

/** Which methods of a source call which, and what each throws itself. */
final class CallGraph {
    private final Map<ExecutableElement, Set<ExecutableElement>> calls = new HashMap<>();
    private final Map<ExecutableElement, Set<String>> thrown = new HashMap<>();

    void enter(ExecutableElement method) {
        calls.putIfAbsent(method, new LinkedHashSet<>());
    }

    /** A call in a field's initialiser has no caller; it stands open under a constructor, one deep. */
    void call(ExecutableElement caller, ExecutableElement called) {
        enter(called);
        if (caller != null) {
            enter(caller);
            calls.get(caller).add(called);
        }
    }

    void thrown(ExecutableElement method, String name) {
        thrown.computeIfAbsent(method, m -> new TreeSet<>()).add(name);
    }

    boolean hasCircle() {
        Set<ExecutableElement> free = new HashSet<>();
        for (boolean grown = true; grown;) {
            grown = false;
            for (ExecutableElement method : calls.keySet()) {
                grown |= free.containsAll(calls.get(method)) && free.add(method);
            }
        }
        return free.size() < calls.size();
    }

    /** How many methods stand open at once at most, where no method calls itself. */
    int depth() {
        return calls.keySet().stream().mapToInt(this::depthOf).max().orElse(0);
    }

    private int depthOf(ExecutableElement method) {
        return 1 + calls.get(method).stream().mapToInt(this::depthOf).max().orElse(0);
    }

    /** What it or a method that it calls throws, where no method calls itself. */
    Set<String> thrownBy(ExecutableElement method) {
        Set<String> all = new TreeSet<>(thrown.getOrDefault(method, Set.of()));
        for (ExecutableElement called : calls.get(method)) {
            all.addAll(thrownBy(called));
        }
        return all;
    }
}
