import java.io.PrintWriter;
import java.io.StringWriter;
import java.util.ArrayList;
import java.util.HashMap;
import java.util.LinkedHashSet;
import java.util.List;
import java.util.Map;
import java.util.Set;
import java.util.regex.Matcher;
import java.util.regex.Pattern;
import java.util.spi.ToolProvider;

/** LANGUAGE.md, 8 and 11: no method calls itself, and calls go at most eight deep, by what the compiled class says. */
public final class CallDepthTest {
    private static final int MOST = 8;
    private static final Pattern HEAD = Pattern.compile(" {2}\\S.*?([\\w$]+)\\(.*\\);");
    private static final Pattern CALL = Pattern.compile("// (?:Interface)?Method (?:([\\w$/]+)\\.)?\"?([\\w$<>]+)\"?:");
    private static final Check check = new Check("CallDepthTest");
    private static final Map<String, Set<String>> calls = new HashMap<>();

    public static void main(String[] args) {
        learn(GridTracks.class);
        for (Class<?> inside : GridTracks.class.getDeclaredClasses()) {
            learn(inside);
        }
        check.holds("methods were found", calls.containsKey("GridTracks.text") && calls.containsKey("GridTracks$Grid.become"));
        for (String method : calls.keySet()) {
            List<String> way = longest(method, new ArrayList<>());
            check.holds("at most " + MOST + " deep: " + way, way.size() <= MOST);
        }
        check.end();
    }

    /** Methods of one name in one class are taken for one, which can only make a way longer. */
    private static void learn(Class<?> c) {
        String method = "";
        for (String line : bytecode(c).split("\n")) {
            Matcher head = HEAD.matcher(line);
            Matcher call = CALL.matcher(line);
            if (head.matches()) {
                boolean isConstructor = head.group(1).equals(c.getName());
                method = c.getName() + "." + (isConstructor ? "<init>" : head.group(1));
                calls.putIfAbsent(method, new LinkedHashSet<>());
            } else if (call.find()) {
                String owner = call.group(1) == null ? c.getName() : call.group(1);
                calls.get(method).add(owner + "." + call.group(2));
            }
        }
    }

    private static String bytecode(Class<?> c) {
        StringWriter text = new StringWriter();
        ToolProvider javap = ToolProvider.findFirst("javap").orElseThrow();
        PrintWriter out = new PrintWriter(text);
        int code = javap.run(out, out, "-p", "-c", "-cp", System.getProperty("java.class.path"), c.getName());
        check.due("javap " + c.getName(), code, 0);
        return text.toString();
    }

    /** The longest way of calls from a method on, it with it; calls of the library are no part of it. */
    private static List<String> longest(String method, List<String> open) {
        List<String> best = new ArrayList<>();
        check.holds(method + " does not call itself", !open.contains(method));
        if (open.contains(method)) {
            return best;
        }
        open.add(method);
        for (String next : calls.get(method)) {
            List<String> way = calls.containsKey(next) ? longest(next, open) : best;
            best = way.size() > best.size() ? way : best;
        }
        open.remove(method);
        List<String> all = new ArrayList<>(List.of(method));
        all.addAll(best);
        return all;
    }
}
