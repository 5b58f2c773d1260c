import java.util.ArrayDeque;
import java.util.Deque;
import java.util.LinkedHashMap;
import java.util.LinkedHashSet;
import java.util.Map;
import java.util.Set;
import javax.lang.model.element.ExecutableElement;
import javax.lang.model.element.Modifier;
import javax.lang.model.element.VariableElement;

/** Which method of the class calls which: recursion keeps to LANGUAGE.md's rule 8, other calls to its rule 11. */
final class Calls {
    private static final int DEEPEST = 8;

    private final Map<ExecutableElement, Set<ExecutableElement>> called = new LinkedHashMap<>();
    private final Map<ExecutableElement, Integer> depths = new LinkedHashMap<>();
    private final Deque<ExecutableElement> open = new ArrayDeque<>();

    /** A call in a field's first value has no method that makes it. */
    void add(ExecutableElement from, ExecutableElement to) {
        if (from != null) {
            called.computeIfAbsent(from, any -> new LinkedHashSet<>()).add(to);
        }
    }

    void judge(Check check) {
        int recursive = 0;
        for (Map.Entry<ExecutableElement, Set<ExecutableElement>> entry : called.entrySet()) {
            ExecutableElement method = entry.getKey();
            if (entry.getValue().contains(method)) {
                recursive++;
                boolean isPrivateStatic = method.getModifiers().containsAll(Set.of(Modifier.PRIVATE, Modifier.STATIC));
                check.holds("rule 8: " + method + " is private and static, its depth an argument",
                        isPrivateStatic && tellsDepth(method));
            }
            int deep = depth(method, check);
            check.holds("rule 11: " + method + " goes " + deep + " deep", deep <= DEEPEST);
        }
        check.due("methods that call themselves", recursive, 1);
    }

    private static boolean tellsDepth(ExecutableElement method) {
        for (VariableElement parameter : method.getParameters()) {
            if (parameter.getSimpleName().contentEquals("depth")) {
                return true;
            }
        }
        return false;
    }

    /** How many calls stand open at most, this one and the library's among them; one of itself counts for nothing. */
    private int depth(ExecutableElement method, Check check) {
        Integer known = depths.get(method);
        if (known != null) {
            return known;
        }
        if (open.contains(method)) {
            check.holds("rule 8: " + method + " and others call one another", false);
            return 0;
        }
        open.push(method);
        int deepest = 0;
        for (ExecutableElement next : called.getOrDefault(method, Set.of())) {
            deepest = next.equals(method) ? deepest : Math.max(deepest, depth(next, check));
        }
        open.pop();
        depths.put(method, 1 + deepest);
        return 1 + deepest;
    }
}
