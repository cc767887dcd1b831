import java.io.PrintWriter;
import java.io.StringWriter;
import java.util.ArrayList;
import java.util.HashMap;
import java.util.HashSet;
import java.util.LinkedHashMap;
import java.util.List;
import java.util.Map;
import java.util.Set;
import java.util.regex.Matcher;
import java.util.regex.Pattern;
import java.util.spi.ToolProvider;

/** What the compiled class does, as javap tells it: which method calls which, and by which instructions. */
final class Bytecode {
    private static final Pattern METHOD = Pattern.compile("^  \\S.*?(\\w+)\\(.*\\);$|^  (static \\{\\});$");
    private static final Pattern STEP = Pattern.compile("^ +\\d+: (\\w+)(?: .*)?$");
    private static final Pattern CALL =
            Pattern.compile("// (?:Interface)?Method (?:([\\w/$]+)\\.)?\"?([\\w<>]+)\"?:(\\S+)");

    /** By "Class.method": the instructions; methods of one name are taken together. */
    final Map<String, List<String>> steps = new LinkedHashMap<>();
    /** By "Class.method": what it calls of its own file, and of the library. */
    final Map<String, Set<String>> calls = new HashMap<>();
    final Set<String> library = new HashSet<>();
    private final Map<String, Set<String>> reached = new HashMap<>();
    private final Map<String, Integer> depths = new HashMap<>();

    /** Without javap there is nothing to be seen. */
    static boolean canBeRead() {
        return ToolProvider.findFirst("javap").isPresent();
    }

    Bytecode(Iterable<Class<?>> classes) {
        for (Class<?> c : classes) {
            read(c.getName());
        }
        for (String method : calls.keySet()) {
            reached.put(method, reachedFrom(method));
        }
    }

    private void read(String owner) {
        StringWriter told = new StringWriter();
        PrintWriter out = new PrintWriter(told);
        ToolProvider.findFirst("javap").orElseThrow().run(out, out, "-p", "-c", "-cp",
                System.getProperty("java.class.path"), owner);
        String method = "";
        for (String line : told.toString().split("\\R")) {
            Matcher head = METHOD.matcher(line);
            Matcher step = STEP.matcher(line);
            if (head.matches()) {
                method = owner + "." + nameOf(owner, head);
                steps.putIfAbsent(method, new ArrayList<>());
                calls.putIfAbsent(method, new HashSet<>());
            } else if (step.matches()) {
                steps.get(method).add(step.group(1));
                readCall(owner, method, line);
            }
        }
    }

    private static String nameOf(String owner, Matcher head) {
        boolean made = head.group(1) != null && owner.endsWith(head.group(1));
        return head.group(1) == null ? "<clinit>" : made ? "<init>" : head.group(1);
    }

    private void readCall(String owner, String method, String line) {
        Matcher call = CALL.matcher(line);
        if (call.find()) {
            String of = call.group(1) == null ? owner : call.group(1);
            if (of.startsWith("java/")) {
                library.add(of + "." + call.group(2) + call.group(3));
            } else {
                calls.get(method).add(of + "." + call.group(2));
            }
        }
    }

    private Set<String> reachedFrom(String method) {
        Set<String> all = new HashSet<>();
        List<String> open = new ArrayList<>(List.of(method));
        while (!open.isEmpty()) {
            for (String next : calls.getOrDefault(open.remove(open.size() - 1), Set.of())) {
                if (all.add(next)) {
                    open.add(next);
                }
            }
        }
        return all;
    }

    private boolean callOneAnother(String one, String other) {
        return reached.get(one).contains(other) && reached.get(other).contains(one);
    }

    /** How many calls stand open below it and with it; those that call one another count as one. */
    int depth(String method) {
        Integer known = depths.get(method);
        if (known != null) {
            return known;
        }
        int deepest = 0;
        Set<String> level = new HashSet<>(Set.of(method));
        calls.keySet().stream().filter(m -> callOneAnother(method, m)).forEach(level::add);
        for (String m : level) {
            for (String next : calls.get(m)) {
                if (!level.contains(next)) {
                    deepest = Math.max(deepest, depth(next));
                }
            }
        }
        depths.put(method, deepest + 1);
        return deepest + 1;
    }

    Set<String> thatCallThemselves() {
        Set<String> all = new HashSet<>();
        calls.keySet().stream().filter(m -> reached.get(m).contains(m)).forEach(all::add);
        return all;
    }
}
