import java.io.PrintWriter;
import java.io.StringWriter;
import java.nio.file.Path;
import java.util.ArrayList;
import java.util.HashMap;
import java.util.List;
import java.util.Map;
import java.util.Optional;
import java.util.Set;
import java.util.TreeSet;
import java.util.regex.Matcher;
import java.util.regex.Pattern;
import java.util.spi.ToolProvider;

/** The rules of LANGUAGE.md that the compiled class shows: what it calls, how deep, and that nothing calls itself. */
public final class CallsTest {
    private static final int DEEPEST = 8;
    private static final Set<String> LIBRARY = Set.of("java/lang/Object.<init>", "java/lang/System.arraycopy");
    private static final Pattern HEAD = Pattern.compile("^  (?:[\\w.\\[\\]$]+ )*([\\w.$]+)\\(.*\\);$");
    private static final Pattern CALL = Pattern.compile("invoke\\w+ .*// (?:Interface)?Method (?:([\\w/$]+)\\.)?"
            + "\"?(<init>|\\w+)\"?:");

    /** What each method calls; methods of one class bear names of their own, or they are taken together. */
    private static final Map<String, Set<String>> CALLS = new HashMap<>();

    public static void main(String[] args) {
        Optional<ToolProvider> javap = ToolProvider.findFirst("javap");
        // a JDK without it can't show the compiled class
        Due.is("the face is there to look at", true, ErrandGuild.class.getMethods().length > 0);
        if (javap.isPresent()) {
            read("ErrandGuild", shown(javap.get(), "ErrandGuild"));
            for (Class<?> inside : ErrandGuild.class.getDeclaredClasses()) {
                read(inside.getName(), shown(javap.get(), inside.getName()));
            }
            looked();
        }
        Due.close("CallsTest");
    }

    private static String shown(ToolProvider javap, String name) {
        StringWriter out = new StringWriter();
        Path classes = Path.of(System.getProperty("java.class.path"));
        PrintWriter to = new PrintWriter(out);
        javap.run(to, to, "-c", "-p", classes.resolve(name + ".class").toString());
        to.flush();
        return out.toString();
    }

    private static void read(String name, String text) {
        Set<String> calls = null;
        for (String line : text.split("\n")) {
            Matcher head = HEAD.matcher(line);
            Matcher call = CALL.matcher(line);
            if (head.matches()) {
                String method = head.group(1).equals(name) ? "<init>" : head.group(1);
                calls = CALLS.computeIfAbsent(name + "." + method, m -> new TreeSet<>());
            } else if (calls != null && call.find()) {
                calls.add((call.group(1) == null ? name : call.group(1)) + "." + call.group(2));
            }
        }
    }

    private static void looked() {
        Due.is("methods were found: " + CALLS.size(), true, CALLS.size() > 80);
        Due.is("beat has its calls", true, CALLS.get("ErrandGuild.beat").contains("ErrandGuild.takeTurns"));
        for (Map.Entry<String, Set<String>> each : CALLS.entrySet()) {
            for (String called : each.getValue()) {
                boolean isOwn = CALLS.containsKey(called);
                Due.is(each.getKey() + " calls " + called, true, isOwn || LIBRARY.contains(called));
            }
            List<String> way = longest(each.getKey(), new ArrayList<>());
            Due.is("deepest way " + way + " is at most " + DEEPEST, true, way.size() <= DEEPEST);
        }
    }

    /** The longest way of calls from this method on, itself and the library's methods counted. */
    private static List<String> longest(String method, List<String> before) {
        Due.is(before + " comes back to " + method, false, before.contains(method));
        List<String> best = new ArrayList<>();
        if (before.contains(method)) {
            return best;
        }
        before.add(method);
        for (String called : CALLS.getOrDefault(method, Set.of())) {
            List<String> way = longest(called, before);
            best = way.size() > best.size() ? way : best;
        }
        before.remove(before.size() - 1);
        List<String> all = new ArrayList<>(List.of(method));
        all.addAll(best);
        return all;
    }
}
