import java.util.ArrayList;
import java.util.LinkedHashMap;
import java.util.List;
import java.util.Map;
import java.util.Set;
import javax.lang.model.element.Element;

/** The longest chain of calls that begins at each method; a method that comes back to itself is told. */
final class CallChains {
    private final Map<Element, Set<Element>> calls;
    private final Map<Element, List<String>> longest = new LinkedHashMap<>();
    private final List<Element> open = new ArrayList<>();
    private String ring = "";

    CallChains(Map<Element, Set<Element>> calls) {
        this.calls = calls;
        for (Element method : calls.keySet()) {
            chainFrom(method);
        }
    }

    /** A method that calls itself, through others or not; empty: there is none. */
    String ring() {
        return ring;
    }

    List<String> longest() {
        List<String> best = List.of();
        for (List<String> chain : longest.values()) {
            if (chain.size() > best.size()) {
                best = chain;
            }
        }
        return best;
    }

    private List<String> chainFrom(Element method) {
        if (longest.containsKey(method)) {
            return longest.get(method);
        }
        if (open.contains(method)) {
            ring = nameOf(method);
            return List.of();
        }
        open.add(method);
        List<String> rest = List.of();
        for (Element next : calls.getOrDefault(method, Set.of())) {
            List<String> chain = chainFrom(next);
            if (chain.size() > rest.size()) {
                rest = chain;
            }
        }
        open.remove(method);
        List<String> whole = new ArrayList<>(List.of(nameOf(method)));
        whole.addAll(rest);
        longest.put(method, whole);
        return whole;
    }

    private static String nameOf(Element method) {
        return method.getEnclosingElement().getSimpleName() + "." + method.getSimpleName();
    }
}
