import java.io.File;
import java.io.PrintWriter;
import java.io.StringWriter;
import java.util.ArrayDeque;
import java.util.HashMap;
import java.util.Map;
import java.util.Optional;
import java.util.Set;
import java.util.TreeMap;
import java.util.TreeSet;
import java.util.regex.Matcher;
import java.util.regex.Pattern;
import java.util.spi.ToolProvider;

/** Which method calls which: rules 8 and 11 of LANGUAGE.md on recursion and on how deep calls go. */
public final class DepthTest {
    private static final int MOST = 8;
    private static final Map<String, Set<String>> calls = new TreeMap<>();
    private static final Set<String> hidden = new TreeSet<>();
    private static final Map<String, Set<String>> reached = new HashMap<>();
    private static int wrong = 0;

    public static void main(String[] args) {
        Optional<ToolProvider> javap = ToolProvider.findFirst("javap");
        if (javap.isEmpty()) {
            System.out.println("no javap here: not looked at");
            return;
        }
        read(javap.get());
        must(calls.size() > 100, "too few methods were read: " + calls.size());
        for (String m : calls.keySet()) {
            reached.put(m, reachedFrom(m));
        }
        for (String m : calls.keySet()) {
            must(!reached.get(m).contains(m) || hidden.contains(m), "calls itself, but is not private: " + m);
            if (m.startsWith("RowTypes.")) {
                int depth = depth(m, new TreeSet<>());
                must(depth <= MOST, m + " goes " + depth + " deep");
            }
        }
        System.out.println(wrong == 0 ? "no calls go too deep" : wrong + " go too deep");
        if (wrong != 0) {
            System.exit(1);
        }
    }

    private static void must(boolean so, String what) {
        if (!so) {
            wrong++;
            System.out.println(what);
        }
    }

    private static void read(ToolProvider javap) {
        File place = new File(System.getProperty("java.class.path"));
        for (String name : place.list()) {
            if (name.matches("RowTypes(\\$\\w+)?\\.class")) {
                StringWriter out = new StringWriter();
                javap.run(new PrintWriter(out), new PrintWriter(System.out), "-p", "-c", new File(place, name).getPath());
                readClass(name.replace(".class", ""), out.toString());
            }
        }
    }

    private static void readClass(String owner, String code) {
        Pattern head = Pattern.compile("^  (.* )?([\\w$]+)\\(.*\\)( throws .*)?;$");
        Pattern call = Pattern.compile("// Method (?:(RowTypes[\\w$]*)\\.)?\"?([\\w<>$]+)\"?:");
        String now = null;
        for (String line : code.split("\\R")) {
            Matcher m = head.matcher(line);
            if (m.find()) {
                now = owner + "." + (m.group(2).equals(owner) ? "<init>" : m.group(2));
                calls.putIfAbsent(now, new TreeSet<>());
                if (line.startsWith("  private ")) {
                    hidden.add(now);
                }
                continue;
            }
            m = call.matcher(line);
            if (m.find() && now != null) {
                calls.get(now).add((m.group(1) == null ? owner : m.group(1)) + "." + m.group(2));
            }
        }
    }

    private static Set<String> reachedFrom(String method) {
        Set<String> all = new TreeSet<>();
        ArrayDeque<String> due = new ArrayDeque<>(calls.get(method));
        while (!due.isEmpty()) {
            String m = due.pop();
            if (calls.containsKey(m) && all.add(m)) {
                due.addAll(calls.get(m));
            }
        }
        return all;
    }

    /** The longest way through methods none of which is open yet: a recursion counts with one level. */
    private static int depth(String method, Set<String> open) {
        int deepest = 0;
        open.add(method);
        for (String m : calls.get(method)) {
            if (calls.containsKey(m) && !open.contains(m)) {
                deepest = Math.max(deepest, depth(m, open));
            }
        }
        open.remove(method);
        return 1 + deepest;
    }
}
