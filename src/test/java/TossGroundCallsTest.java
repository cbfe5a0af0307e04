import java.util.ArrayList;
import java.util.Collections;
import java.util.List;
import java.util.Map;
import java.util.Set;
import java.util.TreeMap;
import java.util.TreeSet;

/**
 * LANGUAGE.md's rules on calls, as the compiled class shows them: recursion is of private methods alone
 * (rule 8), calls that are no recursion go at most eight deep (rule 11).
 */
public final class TossGroundCallsTest {
    static final int DEEPEST = 8;

    /** By owner.name: what each method of the program calls of it. */
    static final Map<String, Set<String>> calls = new TreeMap<>();
    static final Set<String> hidden = new TreeSet<>();
    static int wrong = 0;
    static int asked = 0;

    static void must(boolean holds, String what) {
        asked++;
        if (!holds) {
            wrong++;
            System.out.println("not so: " + what);
        }
    }

    static void read(List<TossGroundClassFile> classes) {
        Map<String, String> above = new TreeMap<>();
        for (TossGroundClassFile c : classes) {
            if (c.above != null) above.put(c.name, c.above);
            for (String method : c.calls.keySet()) calls.put(c.name + "." + method, new TreeSet<>());
            for (String method : c.hidden) hidden.add(c.name + "." + method);
        }
        for (TossGroundClassFile c : classes) {
            for (String method : c.calls.keySet()) {
                for (String to : c.calls.get(method)) resolve(calls.get(c.name + "." + method), to, above);
            }
        }
    }

    /** A method that is named on a class may stand above it, and be overridden below it. */
    static void resolve(Set<String> called, String to, Map<String, String> above) {
        String owner = to.substring(0, to.indexOf('.'));
        String method = to.substring(to.indexOf('.'));
        while (owner != null && !calls.containsKey(owner + method)) owner = above.get(owner);
        if (owner == null) return;
        called.add(owner + method);
        for (String below : above.keySet()) {
            if (owner.equals(above.get(below)) && calls.containsKey(below + method)) called.add(below + method);
        }
    }

    static Set<String> reached(String from) {
        Set<String> all = new TreeSet<>();
        List<String> next = new ArrayList<>(calls.get(from));
        while (!next.isEmpty()) {
            String m = next.remove(next.size() - 1);
            if (all.add(m)) next.addAll(calls.get(m));
        }
        return all;
    }

    /** How many methods, itself too, stand open at most, those of a recursion not counted. */
    static int depth(String method, Map<String, Set<String>> reach) {
        Set<String> circle = new TreeSet<>(Collections.singleton(method));
        for (String m : reach.get(method)) if (reach.get(m).contains(method)) circle.add(m);
        int deepest = 0;
        for (String m : circle) {
            for (String to : calls.get(m)) if (!circle.contains(to)) deepest = Math.max(deepest, depth(to, reach));
        }
        return deepest + (reach.get(method).contains(method) ? 0 : 1);
    }

    public static void main(String[] args) throws Exception {
        read(TossGroundClassFile.all());
        Map<String, Set<String>> reach = new TreeMap<>();
        for (String m : calls.keySet()) reach.put(m, reached(m));
        int circles = 0;
        for (String m : calls.keySet()) {
            if (reach.get(m).contains(m)) {
                circles++;
                must(hidden.contains(m), "rule 8: " + m + ", which comes back to itself, is private");
            }
            must(depth(m, reach) <= DEEPEST, "rule 11: from " + m + " calls go " + depth(m, reach) + " deep");
        }
        must(circles > 0 && calls.size() > 100, "the calls were read");
        System.out.println(wrong == 0 ? "all " + asked + " are so" : wrong + " of " + asked + " are not so");
        if (wrong != 0) System.exit(1);
    }
}
