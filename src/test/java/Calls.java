import java.util.HashMap;
import java.util.HashSet;
import java.util.Map;
import java.util.Set;
import java.util.TreeSet;
import javax.lang.model.element.Element;

/** Which method of the class calls which. */
final class Calls {
    private final Map<Element, Set<Element>> made = new HashMap<>();

    void add(Element from, Element to) {
        made.computeIfAbsent(from, x -> new HashSet<>()).add(to);
    }

    /** The most calls that stand open at once from here on, this one too; a method that comes back to itself is told. */
    int depth(Element from, Set<Element> open, Set<String> recursive) {
        if (!open.add(from)) {
            recursive.add(from.toString());
            return 0;
        }
        int deepest = 0;
        for (Element to : made.getOrDefault(from, Set.of())) {
            deepest = Math.max(deepest, depth(to, open, recursive));
        }
        open.remove(from);
        return deepest + 1;
    }

    Set<String> recursive() {
        Set<String> recursive = new TreeSet<>();
        for (Element from : made.keySet()) {
            depth(from, new HashSet<>(), recursive);
        }
        return recursive;
    }

    int deepest() {
        int deepest = 0;
        for (Element from : made.keySet()) {
            deepest = Math.max(deepest, depth(from, new HashSet<>(), new TreeSet<>()));
        }
        return deepest;
    }
}
