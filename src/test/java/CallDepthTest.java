import java.io.IOException;
import java.util.List;
import java.util.Map;
import java.util.Set;
import java.util.TreeMap;
import java.util.TreeSet;
import java.util.regex.Matcher;
import java.util.regex.Pattern;

/**
 * Rules 8 and 11 of LANGUAGE.md: calls that are no recursion go at most eight deep, and nothing calls
 * itself but the search, whose depth is an argument. Methods of one name count as one.
 */
public final class CallDepthTest {
    private static final int DEEPEST = 8;
    private static final Set<String> RECURSIVE = Set.of("tryFrom");
    private static final Pattern CALL = Pattern.compile("(new )?\\b(\\w+)\\(");

    private final Map<String, Set<String>> called = new TreeMap<>();

    public static void main(String[] args) throws IOException {
        CallDepthTest test = new CallDepthTest(Source.methods(Source.bare(args[0])));
        Check.report("methods were found", Boolean.toString(test.called.size() > 60), "true");
        for (String name : test.called.keySet()) {
            Check.report(name + " calls itself", Boolean.toString(test.called.get(name).contains(name)),
                Boolean.toString(RECURSIVE.contains(name)));
            int depth = test.depth(name, new TreeSet<>());
            Check.report(name + " goes " + depth + " deep", Boolean.toString(depth <= DEEPEST), "true");
        }
        Check.report("the deepest is counted", Integer.toString(test.depth("work", new TreeSet<>())), "7");
        Check.finish();
    }

    private CallDepthTest(List<Source.Method> methods) {
        for (Source.Method m : methods) {
            called.put(m.name(), new TreeSet<>());
        }
        for (Source.Method m : methods) {
            Matcher call = CALL.matcher(m.body());
            while (call.find()) {
                if (call.group(1) == null && called.containsKey(call.group(2))) {
                    called.get(m.name()).add(call.group(2));
                }
            }
        }
    }

    /** A ring of several methods would be a recursion by other names: it is reported as too deep. */
    private int depth(String name, Set<String> open) {
        if (!open.add(name)) {
            return DEEPEST + 1;
        }
        int deepest = 0;
        for (String next : called.get(name)) {
            if (!next.equals(name)) {
                deepest = Math.max(deepest, depth(next, open));
            }
        }
        open.remove(name);
        return deepest + 1;
    }
}
