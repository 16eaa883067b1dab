import java.io.IOException;
import java.lang.reflect.Method;
import java.nio.file.Files;
import java.nio.file.Path;
import java.util.HashSet;
import java.util.Map;
import java.util.Set;
import java.util.TreeMap;
import java.util.TreeSet;
import java.util.regex.Matcher;
import java.util.regex.Pattern;

/** README.md: its example answers as it says; its calls, refusals and tests are those that there are. */
public final class ReadmeTest {
    private static final Check C = new Check("ReadmeTest");
    private static final Pattern STEP = Pattern.compile("(?m)^x\\.(\\w+)\\(([^)]*)\\); *// (SnowTalk\\.)?(-?\\w+)");
    private static final Pattern CALL = Pattern.compile("(?m)^\\| `(\\w+)\\(([^)]*)\\)` \\|[^|]*\\|([^|]*)\\|$");
    private static final Pattern REFUSAL = Pattern.compile("(?m)^\\| `([A-Z]+)` \\| (-\\d+) \\|");
    // From the document's promises: each call, and what it is refused with.
    private static final String[] PROMISES = {
        "gardens(n): OUTSIDE",
        "garden(garden, what, v): UNKNOWN OUTSIDE",
        "set(which, v): OUTSIDE",
        "say(sign): OUTSIDE FULL",
        "wipe():",
        "fault():",
        "judge(what): OUTSIDE NO",
        "done(): NO",
        "state(garden, what): UNKNOWN OUTSIDE",
        "behind(garden, what): UNKNOWN OUTSIDE NO",
        "first(): NO",
        "recognised(garden): UNKNOWN",
        "where(i): NO FULL",
        "cleared(v): OUTSIDE",
        "salted(v): OUTSIDE",
        "slide(garden, v, what): UNKNOWN OUTSIDE STATE",
        "holds(garden): UNKNOWN STATE",
        "seen(garden, deep): UNKNOWN OUTSIDE FULL",
        "forget():",
        "who(m, what): OUTSIDE",
        "next(m, what): OUTSIDE",
        "laws(i): NO",
        "guests(garden, t, m, part): UNKNOWN OUTSIDE",
        "build(garden, t, m, a, b): UNKNOWN OUTSIDE",
        "elsewhere(garden): UNKNOWN",
        "winter(seed, m, what): OUTSIDE",
        "image(n): OUTSIDE",
        "restore(n): OUTSIDE STATE",
        "told(what): OUTSIDE",
    };
    private static final Pattern REFUSED = Pattern.compile("\\b(UNKNOWN|OUTSIDE|NO|STATE|FULL)\\b");

    public static void main(String[] args) throws IOException, ReflectiveOperationException {
        String readme = Files.readString(Path.of("README.md"));
        example(readme);
        calls(readme);
        refusals(readme);
        tests(readme);
        C.end();
    }

    private static Method named(String name) {
        for (Method m : SnowTalk.class.getMethods()) {
            if (m.getName().equals(name) && m.getDeclaringClass() == SnowTalk.class) {
                return m;
            }
        }
        return null;
    }

    private static void example(String readme) throws ReflectiveOperationException {
        SnowTalk x = new SnowTalk();
        int steps = 0;
        Matcher step = STEP.matcher(readme);
        while (step.find()) {
            Method m = named(step.group(1));
            C.holds("the example's " + step.group(1) + " is a call", m != null);
            if (m != null) {
                Number got = (Number) m.invoke(x, numbers(step.group(2)));
                boolean isName = step.group(3) != null;
                long due = isName ? SnowTalk.class.getField(step.group(4)).getInt(null) : Long.parseLong(step.group(4));
                C.due("the example's " + step.group(1) + "(" + step.group(2) + ")", got.longValue(), due);
            }
            steps++;
        }
        long lines = readme.lines().filter(line -> line.startsWith("x.")).count();
        C.due("lines of the example that were tried", steps, lines);
        C.holds("there is an example", steps > 0);
    }

    private static Object[] numbers(String text) {
        if (text.isEmpty()) {
            return new Object[0];
        }
        String[] parts = text.split(", ");
        Object[] all = new Object[parts.length];
        for (int i = 0; i < parts.length; i++) {
            all[i] = parts[i].startsWith("'") ? (int) parts[i].charAt(1) : Integer.parseInt(parts[i]);
        }
        return all;
    }

    private static String refusedIn(String text) {
        Set<String> all = new TreeSet<>();
        Matcher refused = REFUSED.matcher(text);
        while (refused.find()) {
            all.add(refused.group(1));
        }
        return all.toString();
    }

    /** Each call of the document is told once, with its parameters and its refusals. */
    private static void calls(String readme) {
        Map<String, String> due = new TreeMap<>();
        for (String promise : PROMISES) {
            int end = promise.indexOf(':');
            due.put(promise.substring(0, end), refusedIn(promise.substring(end)));
        }
        Set<String> told = new HashSet<>();
        Matcher call = CALL.matcher(readme);
        while (call.find()) {
            String name = call.group(1) + "(" + call.group(2) + ")";
            C.holds(name + " is told once", told.add(name));
            C.holds(name + " is a call of the document", due.containsKey(name));
            C.holds(name + " is refused as the document says: " + due.get(name),
                    refusedIn(call.group(3)).equals(due.get(name)));
        }
        C.holds("all calls are told: " + told, told.equals(due.keySet()));
    }

    /** In the order in which they are answered, with their numbers. */
    private static void refusals(String readme) throws ReflectiveOperationException {
        StringBuilder order = new StringBuilder();
        Matcher refusal = REFUSAL.matcher(readme);
        while (refusal.find()) {
            order.append(refusal.group(1)).append(' ');
            int number = SnowTalk.class.getField(refusal.group(1)).getInt(null);
            C.due(refusal.group(1), Long.parseLong(refusal.group(2)), number);
        }
        C.holds("the refusals in their order: " + order, order.toString().equals("UNKNOWN OUTSIDE NO STATE FULL "));
        C.holds("LOST is told", readme.contains("`LOST` (" + SnowTalk.LOST + ")"));
        C.holds("NONE is told", readme.contains("`NONE` (" + SnowTalk.NONE + ")"));
    }

    /** How the tests are run, and each of them. */
    private static void tests(String readme) throws IOException {
        C.holds("how to run the tests", readme.contains("```sh\n.ci/run\n```"));
        C.holds("what is run can be run", Files.isExecutable(Path.of(".ci/run")));
        try (var files = Files.list(Path.of("src/test/java"))) {
            files.map(file -> file.getFileName().toString().replace(".java", ""))
                    .forEach(name -> C.holds(name + " is told", readme.contains("`" + name + "`")));
        }
    }
}
