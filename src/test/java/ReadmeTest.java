import java.io.IOException;
import java.lang.reflect.Method;
import java.lang.reflect.Modifier;
import java.nio.charset.StandardCharsets;
import java.nio.file.Files;
import java.nio.file.Path;
import java.util.ArrayList;
import java.util.List;
import java.util.Map;
import java.util.Set;
import java.util.TreeMap;
import java.util.TreeSet;
import java.util.regex.Matcher;
import java.util.regex.Pattern;
import java.util.stream.Collectors;
import java.util.stream.Stream;

/** README.md tells the class as it is: its example answers so, and it has each call, refusal and test, and no other. */
public final class ReadmeTest {
    private static final Pattern EXAMPLE = Pattern.compile("(?s)```java\n(.*?)```");
    private static final Pattern ASKED = Pattern.compile("(?m)^ink\\.(\\w+)\\(([^)]*)\\);\\s*// (-?\\d+|[A-Z]+)\\b");
    private static final Pattern LINE = Pattern.compile("(?m)^ink\\.");
    private static final Pattern CALL_ROW = Pattern.compile("(?m)^\\| `(\\w+)\\(([^)]*)\\)` \\|(.*)\\|(.*)\\|$");
    private static final Pattern REFUSAL_ROW = Pattern.compile("(?m)^\\| `([A-Z]+)` \\| (-\\d+) \\|");
    private static final Pattern TEST_ROW = Pattern.compile("(?m)^\\| (\\w+Test) \\|");
    private static final Pattern REFUSAL = Pattern.compile("\\b(UNKNOWN|BAD|LATE|FULL)\\b");
    /** Each call of the document with its refusals, in the order in which they are told. */
    private static final String[] PROMISED = {
        "write(letter): BAD, FULL",
        "wipe():",
        "fault():",
        "leaf(): LATE",
        "about(what): BAD",
        "grey(side, dot): UNKNOWN",
        "shows(grey): BAD",
        "window(dot, what): UNKNOWN, BAD",
        "spread(dot, what, upper): UNKNOWN, BAD",
        "mark(dot): UNKNOWN",
        "under(dot): UNKNOWN",
        "cleaned(n): BAD",
        "paint(side, dot, v): UNKNOWN, BAD",
        "light(d): BAD, LATE",
        "rule(rule, reach, bound): BAD",
        "table(grey, v): BAD",
        "lay(dx, dy): BAD",
        "undo(): LATE",
        "fit(dx, dy, upper): BAD",
        "best(what): BAD",
        "judge(n, row): BAD",
        "share(row, upper): UNKNOWN",
        "see(dot, ink): UNKNOWN, BAD, FULL",
        "unsee():",
        "ways(what): BAD",
        "bleached(row, v, x, upper): UNKNOWN, BAD",
        "seed(v):",
        "drawn(m): BAD",
        "keep(slot): UNKNOWN",
        "again(slot): UNKNOWN, LATE"
    };
    private static final Map<String, Integer> NUMBERS = Map.of("UNKNOWN", LeafInk.UNKNOWN, "BAD", LeafInk.BAD,
            "LATE", LeafInk.LATE, "FULL", LeafInk.FULL, "NONE", LeafInk.NONE);

    public static void main(String[] args) throws IOException, ReflectiveOperationException {
        String page = Files.readString(Path.of("README.md"), StandardCharsets.UTF_8);
        example(page);
        calls(page);
        refusals(page);
        tests(page);
        Due.end();
    }

    private static void example(String page) throws ReflectiveOperationException {
        Matcher block = EXAMPLE.matcher(page);
        Due.that("there is an example", block.find());
        String code = block.group(1);
        LeafInk ink = new LeafInk();
        Due.writeAll(ink, code.substring(code.indexOf('"') + 1, code.lastIndexOf('"')));
        int told = 0;
        for (Matcher asked = ASKED.matcher(code); asked.find(); told++) {
            String answer = asked.group(3);
            long want = NUMBERS.containsKey(answer) ? NUMBERS.get(answer) : Long.parseLong(answer);
            Due.is(asked.group(), ask(ink, asked.group(1), asked.group(2)), want);
        }
        Due.is("calls of the example with an answer", told, LINE.matcher(code).results().count());
        Due.that("the example has calls", told > 0);
    }

    private static long ask(LeafInk ink, String name, String arguments) throws ReflectiveOperationException {
        String[] given = split(arguments);
        Object[] values = new Object[given.length];
        for (Method method : LeafInk.class.getMethods()) {
            if (method.getName().equals(name)) {
                for (int place = 0; place < given.length; place++) {
                    values[place] = value(method.getParameterTypes()[place], given[place]);
                }
                return ((Number) method.invoke(ink, values)).longValue();
            }
        }
        throw new IllegalStateException("there is no call " + name);
    }

    private static Object value(Class<?> type, String given) {
        if (type == boolean.class) {
            return Boolean.valueOf(given);
        }
        return type == long.class ? (Object) Long.valueOf(given) : (Object) Integer.valueOf(given);
    }

    private static String[] split(String arguments) {
        return arguments.isEmpty() ? new String[0] : arguments.split(", ");
    }

    private static void calls(String page) {
        Map<String, String> due = new TreeMap<>();
        for (String promised : PROMISED) {
            due.put(promised.substring(0, promised.indexOf(':')), told(promised));
        }
        Map<String, String> found = new TreeMap<>();
        for (Matcher row = CALL_ROW.matcher(page); row.find();) {
            String call = row.group(1) + "(" + row.group(2) + ")";
            Due.that(call + " stands once in README.md", found.put(call, told(row.group(4))) == null);
        }
        Due.is("promised calls", due.size(), publicCalls());
        Due.that("README.md has the calls " + due.keySet(), found.keySet().equals(due.keySet()));
        due.forEach((call, refusals) -> Due.that(call + " is refused by " + refusals, refusals.equals(found.get(call))));
    }

    private static String told(String text) {
        List<String> refusals = new ArrayList<>();
        for (Matcher refusal = REFUSAL.matcher(text); refusal.find();) {
            refusals.add(refusal.group());
        }
        return String.join(", ", refusals);
    }

    private static int publicCalls() {
        int many = 0;
        for (Method method : LeafInk.class.getDeclaredMethods()) {
            many += Modifier.isPublic(method.getModifiers()) ? 1 : 0;
        }
        return many;
    }

    private static void refusals(String page) {
        Set<String> found = new TreeSet<>();
        for (Matcher row = REFUSAL_ROW.matcher(page); row.find();) {
            found.add(row.group(1));
            Due.that(row.group(1) + " is a constant", NUMBERS.containsKey(row.group(1)));
            Due.is(row.group(1), NUMBERS.getOrDefault(row.group(1), 0), Long.parseLong(row.group(2)));
        }
        Due.that("the refusals " + found, found.equals(Set.of("UNKNOWN", "BAD", "LATE", "FULL")));
        Due.that("NONE is told", page.contains("`NONE` (" + LeafInk.NONE + ")"));
    }

    private static void tests(String page) throws IOException {
        Set<String> found = new TreeSet<>();
        for (Matcher row = TEST_ROW.matcher(page); row.find();) {
            found.add(row.group(1));
        }
        try (Stream<Path> files = Files.list(Path.of("src/test/java"))) {
            Set<String> due = files.map(file -> file.getFileName().toString()).filter(name -> name.endsWith("Test.java"))
                    .map(name -> name.replace(".java", "")).collect(Collectors.toCollection(TreeSet::new));
            Due.that("README.md has the tests " + due, found.equals(due));
        }
        Due.that("README.md tells the command", page.contains("```sh\n.ci/run\n```"));
        Due.that("the command can be run", Files.isExecutable(Path.of(".ci/run")));
    }
}
