import java.lang.reflect.InvocationTargetException;
import java.lang.reflect.Method;
import java.lang.reflect.Modifier;
import java.net.URL;
import java.net.URLClassLoader;
import java.nio.file.Files;
import java.nio.file.Path;
import java.util.ArrayList;
import java.util.List;
import java.util.Map;
import java.util.NoSuchElementException;
import java.util.Random;
import java.util.Set;
import java.util.TreeMap;
import java.util.TreeSet;
import java.util.function.Supplier;
import java.util.regex.Matcher;
import java.util.regex.Pattern;
import java.util.stream.Stream;
import javax.tools.ToolProvider;

/** What README.md says holds: its example, its tables of refusals, what throws, the names of calls and tests. */
final class ReadmeTest extends Checks {
    private static final Set<String> NEVER_REFUSED = Set.of("feed", "fault", "where", "led", "size", "trouble");
    private static final int[] NUMBERS = {LOW, -100, -2, -1, 0, 0, 0, 1, 1, 2, 3, 4, 5, 6, 7, 8, 9, 24, 100, 201, 65536,
        65537, HIGH};
    private static final int ASKED = 600;

    private static List<String> readme;
    /** Of each call: by which trouble it was refused, and what it answered then. */
    private static final Map<String, Set<Integer>> TROUBLES = new TreeMap<>();
    private static final Map<String, Set<String>> ANSWERS = new TreeMap<>();

    public static void main(String[] args) throws Exception {
        Path root = Path.of(args.length > 0 ? args[0] : ".");
        readme = Files.readAllLines(root.resolve("README.md"));
        example();
        testsAreNamed(root);
        callsAreNamed();
        askAll();
        whoIsRefusedByWhat();
        whatTheRefusedAnswer();
        end();
    }

    // ---- the example

    /** The lines of its fenced part in Java. */
    private static List<String> javaLines() {
        List<String> lines = new ArrayList<>();
        boolean isInside = false;
        for (String line : readme) {
            if (line.startsWith("```")) {
                isInside = line.equals("```java");
            } else if (isInside) {
                lines.add(line);
            }
        }
        return lines;
    }

    private static void example() throws Exception {
        promise = "README: the example";
        StringBuilder source = new StringBuilder("public final class Example {\n    public static String run() {\n");
        source.append("StringBuilder said = new StringBuilder();\n");
        StringBuilder want = new StringBuilder();
        int said = 0;
        for (String line : javaLines()) {
            source.append(line).append('\n');
            Matcher m = Pattern.compile("^\\w+ (\\w+) = .*;\\s+// (\\S+)$").matcher(line);
            if (m.matches()) {
                source.append("said.append(\"").append(m.group(1)).append(" \").append(").append(m.group(1))
                        .append(").append('\\n');\n");
                want.append(m.group(1)).append(' ').append(m.group(2)).append('\n');
                said++;
            }
        }
        source.append("return said.toString();\n    }\n}\n");
        due("there is an example that says what is answered", said >= 5, true);
        String got = compiledAndRun(source.toString());
        due("what it says: '" + want + "', and what is answered: '" + got + "'", got.equals(want.toString()), true);
    }

    private static String compiledAndRun(String source) throws Exception {
        Path dir = Files.createTempDirectory("readme");
        Path file = dir.resolve("Example.java");
        Files.writeString(file, source);
        String classes = System.getProperty("java.class.path");
        int wrong = ToolProvider.getSystemJavaCompiler().run(null, null, null, "-cp", classes, "-d", dir.toString(),
                file.toString());
        if (wrong != 0) {
            return "it doesn't compile";
        }
        try (URLClassLoader loader = new URLClassLoader(new URL[] {dir.toUri().toURL()})) {
            return (String) loader.loadClass("Example").getMethod("run").invoke(null);
        } finally {
            try (Stream<Path> files = Files.list(dir)) {
                for (Path p : (Iterable<Path>) files::iterator) {
                    Files.delete(p);
                }
            }
            Files.delete(dir);
        }
    }

    // ---- names

    private static void testsAreNamed(Path root) throws Exception {
        promise = "README: the tests";
        Set<String> are = new TreeSet<>();
        try (Stream<Path> files = Files.list(root.resolve("src/test/java"))) {
            for (Path p : (Iterable<Path>) files::iterator) {
                are.add(p.getFileName().toString().replace(".java", ""));
            }
        }
        Set<String> named = new TreeSet<>();
        Matcher m = Pattern.compile("\\b[A-Z]\\w*[a-z]Test\\b|`([A-Z][a-z]\\w+)`").matcher(String.join("\n", readme));
        while (m.find()) {
            String name = m.group(1) == null ? m.group() : m.group(1);
            if (!name.equals("NoSuchElementException")) {
                named.add(name);
            }
        }
        due("what is named " + named + ", and what there is " + are, named.equals(are), true);
    }

    private static List<Method> calls() {
        List<Method> calls = new ArrayList<>();
        for (Method m : ElderTurn.class.getDeclaredMethods()) {
            if (Modifier.isPublic(m.getModifiers())) {
                calls.add(m);
            }
        }
        return calls;
    }

    private static void callsAreNamed() {
        promise = "README: the calls";
        int end = readme.indexOf("### What a refused call answers");
        String page = String.join("\n", readme.subList(0, Math.max(0, end)));
        for (Method m : calls()) {
            due(m.getName() + " is named", page.contains("`" + m.getName() + "`"), true);
        }
    }

    // ---- refusals

    private static ElderTurn withTape(String text) {
        ElderTurn x = new ElderTurn();
        Texts.tape(x, text.getBytes());
        return x;
    }

    private static ElderTurn full() {
        ElderTurn x = Texts.of(FULL);
        for (int i = 0; i < 8; i++) {
            x.buy(i % 6, i % 4, (i + 1) % 4, i);
        }
        for (int i = 0; i < 3; i++) {
            x.mark();
        }
        Texts.tape(x, FULL.getBytes());
        return x;
    }

    private static List<Supplier<ElderTurn>> states() {
        return List.of(ElderTurn::new, () -> withTape("family"), () -> Texts.of(head(4, "lot", 0) + plain("a", 1)),
                () -> Texts.of(FULL), ReadmeTest::full);
    }

    private static void askAll() throws Exception {
        promise = "README: refusals";
        Random r = new Random(3);
        for (Supplier<ElderTurn> state : states()) {
            for (Method m : calls()) {
                for (int i = 0; i < ASKED; i++) {
                    ask(state.get(), m, numbers(r, m.getParameterTypes()), r.nextBoolean());
                }
            }
        }
    }

    private static Object[] numbers(Random r, Class<?>[] types) {
        Object[] numbers = new Object[types.length];
        for (int i = 0; i < types.length; i++) {
            numbers[i] = types[i] == boolean.class ? (Object) r.nextBoolean() : NUMBERS[r.nextInt(NUMBERS.length)];
        }
        return numbers;
    }

    private static void ask(ElderTurn x, Method m, Object[] numbers, boolean isRefusedAhead) throws Exception {
        String call = m.getName() + List.of(numbers);
        if (isRefusedAhead) {
            x.back(-1);
        }
        int ahead = x.trouble();
        String answer;
        try {
            answer = String.valueOf(m.invoke(x, numbers));
        } catch (InvocationTargetException thrown) {
            due(call + " throws " + thrown.getCause(), m.getName().equals("led")
                    && thrown.getCause() instanceof NoSuchElementException, true);
            answer = "thrown";
        }
        int why = x.trouble();
        if (NEVER_REFUSED.contains(m.getName())) {
            due(call + ": trouble", why, ahead);
        } else if (why != 0) {
            TROUBLES.computeIfAbsent(m.getName(), k -> new TreeSet<>()).add(why);
            ANSWERS.computeIfAbsent(m.getName(), k -> new TreeSet<>()).add(answer);
        }
        due(call + ": where", x.where() >= 0, why == 4);
    }

    /** The rows of the table whose first row begins so: their cells. */
    private static List<String[]> table(String head) {
        List<String[]> rows = new ArrayList<>();
        int at = 0;
        while (at < readme.size() && !readme.get(at).startsWith("| " + head + " |")) {
            at++;
        }
        for (int i = at + 2; i < readme.size() && readme.get(i).startsWith("|"); i++) {
            rows.add(readme.get(i).substring(1).split("\\|"));
        }
        return rows;
    }

    private static Set<String> named(String cell, Set<String> all) {
        Set<String> names = new TreeSet<>();
        Matcher m = Pattern.compile("`(\\w+)`").matcher(cell);
        while (m.find()) {
            names.add(m.group(1));
        }
        if (!cell.contains("all but")) {
            return names;
        }
        Set<String> others = new TreeSet<>(all);
        others.removeAll(names);
        return others;
    }

    private static Set<String> refusable() {
        Set<String> names = new TreeSet<>();
        for (Method m : calls()) {
            if (!NEVER_REFUSED.contains(m.getName())) {
                names.add(m.getName());
            }
        }
        return names;
    }

    private static void whoIsRefusedByWhat() {
        promise = "README: who is refused by what";
        Set<String> all = refusable();
        due("all that may be refused were: " + TROUBLES.keySet(), TROUBLES.keySet().equals(all), true);
        List<String[]> rows = table("trouble");
        due("troubles in the table", rows.size(), 7);
        for (String[] row : rows) {
            int why = Integer.parseInt(row[0].strip());
            Set<String> was = new TreeSet<>();
            for (String call : all) {
                if (TROUBLES.getOrDefault(call, Set.of()).contains(why)) {
                    was.add(call);
                }
            }
            Set<String> says = named(row[2], all);
            due("by " + why + ": the page says " + says + ", refused were " + was, says.equals(was), true);
        }
    }

    private static void whatTheRefusedAnswer() {
        promise = "README: what the refused answer";
        Set<String> others = refusable();
        for (String[] row : table("answer")) {
            String answer = row[0].replaceAll("^ `([^`]*)`.*$", "$1");
            Set<String> says = row[1].contains("all others") ? new TreeSet<>(others) : named(row[1], others);
            for (String call : says) {
                due(call + " answers " + ANSWERS.get(call) + ", the page says " + answer,
                        Set.of(answer).equals(ANSWERS.get(call)), true);
            }
            others.removeAll(says);
        }
        due("calls of which the page doesn't say what they answer: " + others, others.isEmpty(), true);
    }
}
