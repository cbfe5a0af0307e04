import java.io.File;
import java.io.PrintWriter;
import java.io.StringWriter;
import java.util.ArrayList;
import java.util.Collections;
import java.util.List;
import java.util.Map;
import java.util.Set;
import java.util.TreeMap;
import java.util.TreeSet;
import java.util.regex.Matcher;
import java.util.regex.Pattern;
import java.util.spi.ToolProvider;

/**
 * LANGUAGE.md's rules on calls, as the compiled class shows them by javap: recursion is of private methods
 * alone (rule 8), calls that are no recursion go at most eight deep (rule 11).
 */
public final class TossGroundCallsTest {
    static final int DEEPEST = 8;
    static final Pattern CLASS = Pattern.compile("^\\S.*?(?:class|interface|enum) (TossGround\\S*)(?: extends (\\S+))?.*\\{$");
    static final Pattern METHOD = Pattern.compile("^  (\\S.*?)([\\w$]+)\\(.*\\)(?: throws .*)?;$");
    static final Pattern CALL = Pattern.compile("// (?:Interface)?Method (?:([\\w$/]+)\\.)?(\\w+):\\(");

    static final Map<String, Set<String>> named = new TreeMap<>();
    static final Map<String, String> above = new TreeMap<>();
    static final Set<String> hidden = new TreeSet<>();
    static final Map<String, Set<String>> calls = new TreeMap<>();
    static int wrong = 0;
    static int asked = 0;

    static void must(boolean holds, String what) {
        asked++;
        if (!holds) {
            wrong++;
            System.out.println("not so: " + what);
        }
    }

    static String dump(File dir) {
        List<String> args = new ArrayList<>(List.of("-c", "-p", "-cp", dir.getPath(), "TossGround"));
        for (Class<?> c : TossGround.class.getDeclaredClasses()) args.add(c.getName());
        StringWriter out = new StringWriter();
        ToolProvider javap = ToolProvider.findFirst("javap").orElseThrow();
        must(javap.run(new PrintWriter(out), new PrintWriter(System.out), args.toArray(new String[0])) == 0, "javap reads the classes");
        return out.toString();
    }

    static void read(String dump) {
        String owner = "";
        String method = "";
        for (String line : dump.split("\n")) {
            Matcher m = CLASS.matcher(line);
            if (m.find()) {
                owner = m.group(1);
                if (m.group(2) != null) above.put(owner, m.group(2));
                continue;
            }
            m = METHOD.matcher(line);
            if (m.find()) {
                method = owner + "." + m.group(2);
                calls.putIfAbsent(method, new TreeSet<>());
                named.computeIfAbsent(method, k -> new TreeSet<>());
                if (m.group(1).startsWith("private ")) hidden.add(method);
                continue;
            }
            m = CALL.matcher(line);
            if (m.find()) named.get(method).add((m.group(1) == null ? owner : m.group(1)) + "." + m.group(2));
        }
    }

    /** A method that is named on a class may stand above it, and be overridden below it. */
    static void resolve() {
        for (String from : named.keySet()) {
            for (String to : named.get(from)) {
                String owner = to.substring(0, to.indexOf('.'));
                String name = to.substring(to.indexOf('.'));
                while (owner != null && !calls.containsKey(owner + name)) owner = above.get(owner);
                if (owner == null) continue;
                calls.get(from).add(owner + name);
                for (String below : above.keySet()) {
                    if (owner.equals(above.get(below)) && calls.containsKey(below + name)) calls.get(from).add(below + name);
                }
            }
        }
    }

    static Set<String> reached(String from) {
        Set<String> all = new TreeSet<>();
        List<String> next = new ArrayList<>(calls.get(from));
        while (!next.isEmpty()) {
            String m = next.remove(next.size() - 1);
            if (all.add(m)) next.addAll(calls.get(m));
        }
        return all;
    }

    /** How many methods, itself too, stand open at most, those of a recursion not counted. */
    static int depth(String method, Map<String, Set<String>> reach) {
        Set<String> circle = new TreeSet<>(Collections.singleton(method));
        for (String m : reach.get(method)) if (reach.get(m).contains(method)) circle.add(m);
        int deepest = 0;
        for (String m : circle) {
            for (String to : calls.get(m)) if (!circle.contains(to)) deepest = Math.max(deepest, depth(to, reach));
        }
        return deepest + (reach.get(method).contains(method) ? 0 : 1);
    }

    public static void main(String[] args) throws Exception {
        read(dump(new File(TossGround.class.getProtectionDomain().getCodeSource().getLocation().toURI())));
        resolve();
        Map<String, Set<String>> reach = new TreeMap<>();
        for (String m : calls.keySet()) reach.put(m, reached(m));
        int circles = 0;
        for (String m : calls.keySet()) {
            if (reach.get(m).contains(m)) {
                circles++;
                must(hidden.contains(m), "rule 8: " + m + ", which comes back to itself, is private");
            }
            must(depth(m, reach) <= DEEPEST, "rule 11: from " + m + " calls go " + depth(m, reach) + " deep");
        }
        must(circles > 0 && calls.size() > 100, "the calls were read");
        System.out.println(wrong == 0 ? "all " + asked + " are so" : wrong + " of " + asked + " are not so");
        if (wrong != 0) System.exit(1);
    }
}
