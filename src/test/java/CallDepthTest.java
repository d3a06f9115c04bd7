import java.io.PrintWriter;
import java.io.StringWriter;
import java.util.ArrayList;
import java.util.HashMap;
import java.util.HashSet;
import java.util.List;
import java.util.Map;
import java.util.Set;
import java.util.TreeSet;
import java.util.regex.Matcher;
import java.util.regex.Pattern;
import java.util.spi.ToolProvider;

/**
 * How deep calls go (rules 8 and 11 of LANGUAGE.md), from the compiled classes: every public method
 * counts as 1, and constructors, those of classes above and calls of the library count as calls.
 */
public final class CallDepthTest {
    private static final int MOST = 8;
    private static final Pattern CALL =
            Pattern.compile("invoke\\w+ .*// (?:Interface)?Method (?:([^.:]+)\\.)?\"?([\\w<>]+)\"?:(\\S+)");

    private final Map<String, Set<String>> calls = new HashMap<>();
    private final Map<String, String> above = new HashMap<>();
    private final Set<String> open = new HashSet<>();
    private final Map<String, List<String>> deepest = new HashMap<>();

    private CallDepthTest() {
    }

    public static void main(String[] args) {
        if (ToolProvider.findFirst("javap").isEmpty()) {
            System.out.println("NOT RUN: this Java has no javap");
            return;
        }
        CallDepthTest test = new CallDepthTest();
        List<Class<?>> classes = new ArrayList<>(List.of(CarriedCommits.class.getDeclaredClasses()));
        classes.add(CarriedCommits.class);
        for (Class<?> type : classes) {
            test.read(type);
        }
        Script.due("the compiled classes", "classes read", test.above.size(), classes.size());
        Set<String> starts = new TreeSet<>();
        for (String method : test.calls.keySet()) {
            if (method.startsWith("CarriedCommits.")) {
                starts.add(method);
            }
        }
        Script.holds("the methods of the face are found", starts.size() >= 37);
        for (String start : starts) {
            List<String> chain = test.deepestFrom(start);
            Script.holds(chain + " is at most " + MOST + " deep", chain.size() <= MOST);
        }
        List<String> replay = test.deepestFrom("CarriedCommits.replay(II)I");
        Script.holds(replay + " comes to the trace", replay.size() > 6);
        Script.end();
    }

    private void read(Class<?> type) {
        above.put(type.getName(), type.getSuperclass().getName());
        String method = null;
        for (String line : disassemble(type).split("\n")) {
            Matcher call = CALL.matcher(line);
            if (line.startsWith("    descriptor: ")) {
                method = method + line.substring("    descriptor: ".length());
                calls.putIfAbsent(method, new TreeSet<>());
            } else if (line.matches("  \\S.*\\(.*\\);")) {
                String name = line.replaceAll("\\(.*", "").replaceAll(".*[ .]", "");
                method = type.getName() + "." + (name.equals(type.getName()) ? "<init>" : name);
            } else if (call.find()) {
                String owner = call.group(1) == null ? type.getName() : call.group(1).replace("\"", "");
                calls.get(method).add(owner.replace('/', '.') + "." + call.group(2) + call.group(3));
            }
        }
    }

    private static String disassemble(Class<?> type) {
        StringWriter text = new StringWriter();
        PrintWriter out = new PrintWriter(text);
        ToolProvider javap = ToolProvider.findFirst("javap").orElseThrow();
        javap.run(out, out, "-p", "-c", "-s", "-cp", System.getProperty("java.class.path"), type.getName());
        return text.toString();
    }

    /** A call of a method may come to that of any class below the one that it names. */
    private List<String> bodies(String method) {
        List<String> bodies = new ArrayList<>();
        bodies.add(method);
        String name = method.substring(method.lastIndexOf('.', method.indexOf('(')));
        String owner = method.substring(0, method.length() - name.length());
        for (String type : above.keySet()) {
            if (!name.startsWith(".<init>") && isBelow(type, owner) && calls.containsKey(type + name)) {
                bodies.add(type + name);
            }
        }
        return bodies;
    }

    private boolean isBelow(String type, String owner) {
        for (String t = above.get(type); t != null; t = above.get(t)) {
            if (t.equals(owner)) {
                return true;
            }
        }
        return false;
    }

    private List<String> deepestFrom(String method) {
        List<String> known = deepest.get(method);
        if (known != null) {
            return known;
        }
        Script.holds(method + " does not call itself", open.add(method));
        List<String> longest = new ArrayList<>();
        for (String call : calls.getOrDefault(method, Set.of())) {
            for (String body : bodies(call)) {
                List<String> chain = deepestFrom(body);
                longest = chain.size() > longest.size() ? chain : longest;
            }
        }
        open.remove(method);
        List<String> chain = new ArrayList<>(List.of(method));
        chain.addAll(longest);
        deepest.put(method, chain);
        return chain;
    }
}
