import java.io.IOException;
import java.lang.reflect.Method;
import java.lang.reflect.Modifier;
import java.nio.file.Files;
import java.nio.file.Path;
import java.util.ArrayList;
import java.util.HashMap;
import java.util.HashSet;
import java.util.List;
import java.util.Map;
import java.util.Set;
import java.util.TreeSet;
import java.util.regex.Matcher;
import java.util.regex.Pattern;
import java.util.stream.Collectors;
import java.util.stream.Stream;

/** Makes the calls that README.md shows, and holds their answers against those that it names. Runs in the project's folder. */
public final class ReadmeTest {
    private static final Pattern MADE = Pattern.compile("FallingGlass (\\w+) = new FallingGlass\\(\\);");
    private static final Pattern CALLED = Pattern.compile("(\\w+)\\.(\\w+)\\(([^)]*)\\);");
    private static final Pattern SHOWN = Pattern.compile("((?:" + CALLED + " ?)+) *// ([^:]*)(: .*)?");
    private static final Pattern ANSWER = Pattern.compile("(-?\\d+)(?: = ([A-Z]+)(?: \\+ ([A-Z]+))?)?");
    private static final Pattern ROW = Pattern.compile("\\| `([A-Z]+)` \\| (-?\\d+) \\| .+ \\|");
    private static final Map<String, Long> NAMES = Map.of("UNKNOWN", -1L, "OUTSIDE", -2L, "STATE", -3L, "FULL", -4L,
        "NO", -5L, "NONE", -6L, "GONE", -1000000000L, "LOST", -1000000000000000000L);
    // The document's four sections, and what stands in each.
    private static final Map<String, String> SECTIONS = Map.of(
        "### 1 The glass, the book", "hour tap stick day tear look",
        "### 2 Sayings, tellers", "say wipe fault saying odds such wire set",
        "### 3 Scores", "score means best tried lot changed engraved right",
        "### 4 The low, hay", "glass clear may low hay does believed image restore told");
    private static final int MOST_CALLS = 512;
    private static final Due DUE = new Due("ReadmeTest");

    private final Map<String, FallingGlass> objects = new HashMap<>();
    private final Map<String, Integer> calls = new HashMap<>();
    private final Map<String, Set<String>> shown = new HashMap<>();
    private final Set<String> answered = new HashSet<>();
    private final Set<String> explained = new HashSet<>();
    private String heading = "";

    public static void main(String[] args) throws IOException {
        List<String> page = Files.readAllLines(Path.of("README.md"));
        ReadmeTest test = new ReadmeTest();
        test.read(page);
        test.holdsAll();
        String text = String.join("\n", page);
        holds("it tells for how many calls an object is used", text.contains("at most " + MOST_CALLS + " calls"));
        holds("it tells how the tests are run", text.contains("`.ci/run`"));
        namesOfTests(text);
        DUE.end();
    }

    private void read(List<String> page) {
        boolean inCode = false;
        for (String line : page) {
            if (line.startsWith("```")) {
                inCode = line.equals("```java");
            } else if (inCode) {
                code(line);
            } else if (line.startsWith("#")) {
                heading = line;
            } else {
                row(line);
            }
        }
    }

    private void code(String line) {
        Matcher made = MADE.matcher(line);
        Matcher shows = SHOWN.matcher(line);
        if (made.matches()) {
            objects.put(made.group(1), new FallingGlass());
            calls.put(made.group(1), 0);
        } else if (shows.matches()) {
            makeCalls(line, shows.group(1), shows.group(5).split(", "));
        } else {
            holds("this line is understood: " + line, false);
        }
    }

    private void makeCalls(String line, String code, String[] answers) {
        Matcher call = CALLED.matcher(code);
        int n = 0;
        while (call.find()) {
            FallingGlass object = objects.get(call.group(1));
            boolean named = object != null && n < answers.length;
            holds("a made object and an answer for " + call.group(), named);
            if (named) {
                calls.merge(call.group(1), 1, Integer::sum);
                DUE.is(call.group(), answer(object, call.group(2), call.group(3)), named(answers[n]));
                shown.computeIfAbsent(heading, h -> new TreeSet<>()).add(call.group(2));
            }
            n++;
        }
        DUE.is("answers named in: " + line, answers.length, n);
    }

    private static long answer(FallingGlass object, String name, String arguments) {
        List<Object> numbers = new ArrayList<>();
        for (String one : arguments.isEmpty() ? new String[0] : arguments.split(", ")) {
            numbers.add(one.startsWith("'") ? one.charAt(1) : Integer.parseInt(one));
        }
        for (Method method : FallingGlass.class.getMethods()) {
            if (method.getName().equals(name) && method.getParameterCount() == numbers.size()) {
                try {
                    return ((Number) method.invoke(object, numbers.toArray())).longValue();
                } catch (ReflectiveOperationException thrown) {
                    holds(name + "(" + arguments + ") is answered, not " + thrown.getCause(), false);
                }
            }
        }
        holds("there is a call " + name + "(" + arguments + ")", false);
        return Long.MIN_VALUE;
    }

    /** The number of an answer; where names stand behind it, they must be as much. */
    private long named(String text) {
        Matcher answer = ANSWER.matcher(text.trim());
        if (!answer.matches()) {
            holds("this answer is understood: " + text, false);
            return Long.MIN_VALUE;
        }
        long number = Long.parseLong(answer.group(1));
        long sum = 0;
        for (int i = 2; i <= 3; i++) {
            String name = answer.group(i);
            sum += name == null ? 0 : NAMES.getOrDefault(name, Long.MIN_VALUE);
            answered.add(name);
        }
        if (answer.group(2) != null) {
            DUE.is("what is named in " + text, sum, number);
        }
        return number;
    }

    private void row(String line) {
        Matcher row = ROW.matcher(line);
        if (row.matches()) {
            DUE.is("the number of " + row.group(1), Long.parseLong(row.group(2)),
                NAMES.getOrDefault(row.group(1), Long.MIN_VALUE));
            explained.add(row.group(1));
        }
    }

    private void holdsAll() {
        for (String section : SECTIONS.keySet()) {
            for (String name : SECTIONS.get(section).split(" ")) {
                holds(section + " shows " + name, shown.getOrDefault(section, Set.of()).contains(name));
            }
        }
        for (String name : NAMES.keySet()) {
            holds(name + " is explained", explained.contains(name));
            holds(name + " is shown", answered.contains(name));
        }
        for (String object : calls.keySet()) {
            holds(object + " is asked no more than it is used", calls.get(object) <= MOST_CALLS);
        }
        for (Method method : FallingGlass.class.getDeclaredMethods()) {
            String name = method.getName();
            boolean known = SECTIONS.values().stream().anyMatch(all -> Set.of(all.split(" ")).contains(name));
            holds(name + " stands in a section", known || !Modifier.isPublic(method.getModifiers()));
        }
    }

    /** Each test has a row of its own, and each row's test is there. */
    private static void namesOfTests(String text) throws IOException {
        Set<String> rows = new TreeSet<>();
        Matcher row = Pattern.compile("(?m)^\\| `(\\w+Test)`").matcher(text);
        while (row.find()) {
            rows.add(row.group(1));
        }
        try (Stream<Path> files = Files.list(Path.of("src/test/java"))) {
            Set<String> tests = files.map(file -> file.getFileName().toString()).filter(name -> name.endsWith("Test.java"))
                .map(name -> name.replace(".java", "")).collect(Collectors.toCollection(TreeSet::new));
            holds("the list of tests is " + tests + ", not " + rows, tests.equals(rows));
        }
    }

    private static void holds(String what, boolean held) {
        DUE.is(what, held ? 1 : 0, 1);
    }
}
