import java.io.PrintWriter;
import java.io.StringWriter;
import java.util.ArrayDeque;
import java.util.Deque;
import java.util.HashMap;
import java.util.Map;
import java.util.Set;
import java.util.TreeSet;
import java.util.regex.Matcher;
import java.util.regex.Pattern;
import java.util.spi.ToolProvider;

/** Rules 8 and 11 of LANGUAGE.md: no method calls itself by any way, and calls go at most eight deep. */
public final class CallDepthTest {
    private static final int DEEPEST = 8;
    private static final Pattern METHOD = Pattern.compile("^  (?! )(?:.* )?([\\w$.]+)\\(.*\\);$");
    private static final Pattern CALL = Pattern.compile("// Method (?:([\\w/$]+)\\.)?\"?([\\w<>]+)\"?:");

    private static final Map<String, Set<String>> CALLS = new HashMap<>();

    public static void main(String[] args) {
        // A java without its own javap can not look; the depth was looked at where the class was written.
        if (ToolProvider.findFirst("javap").isEmpty()) {
            System.out.println("no javap here: the depth of calls is not looked at");
            return;
        }
        read("WaitOrWalkOn");
        for (Class<?> inside : WaitOrWalkOn.class.getDeclaredClasses()) {
            read(inside.getName());
        }
        Due.is("the face and more was read", CALLS.size() > 31 ? 1 : 0, 1);
        Due.is("calls were read", CALLS.get("WaitOrWalkOn.best").contains("WaitOrWalkOn.planOf") ? 1 : 0, 1);
        for (String method : CALLS.keySet()) {
            int depth = depth(method, new ArrayDeque<>());
            Due.is(method + " goes " + depth + " deep", depth <= DEEPEST ? 1 : 0, 1);
        }
        Due.end();
    }

    /** What each method of a class calls, by the names that stand in its compiled form. */
    private static void read(String className) {
        StringWriter out = new StringWriter();
        PrintWriter writer = new PrintWriter(out);
        ToolProvider javap = ToolProvider.findFirst("javap").orElseThrow();
        javap.run(writer, writer, "-p", "-c", "-cp", System.getProperty("java.class.path"), className);
        Set<String> calls = new TreeSet<>();
        for (String row : out.toString().split("\\R")) {
            Matcher method = METHOD.matcher(row);
            Matcher call = CALL.matcher(row);
            if (method.matches()) {
                String name = method.group(1).equals(className) ? "<init>" : method.group(1);
                calls = CALLS.computeIfAbsent(className + "." + name, key -> new TreeSet<>());
            } else if (call.find()) {
                String of = call.group(1) == null ? className : call.group(1).replace('/', '.');
                calls.add(of + "." + call.group(2));
            }
        }
    }

    private static int depth(String method, Deque<String> open) {
        if (open.contains(method)) {
            Due.is(method + " calls itself by way of " + open, 1, 0);
            return 0;
        }
        open.push(method);
        int deepest = 0;
        for (String called : CALLS.getOrDefault(method, Set.of())) {
            deepest = Math.max(deepest, depth(called, open));
        }
        open.pop();
        return deepest + 1;
    }
}
