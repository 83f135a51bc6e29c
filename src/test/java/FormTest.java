import java.nio.file.Files;
import java.nio.file.Path;
import java.util.ArrayList;
import java.util.HashMap;
import java.util.HashSet;
import java.util.List;
import java.util.Map;
import java.util.Set;
import java.util.regex.Matcher;
import java.util.regex.Pattern;

/** Looks at the source for what ../shared/LANGUAGE.md forbids, as far as a plain look can tell. */
final class FormTest {
    private static int wrong = 0;

    private static final Pattern METHOD = Pattern.compile(
            "^( {4}| {8})((?:(?:private|public|static|final) )*)([\\w\\[\\]]+) (\\w+)\\((.*)\\)(?: throws \\w+)? \\{$");
    private static final String[] FORBIDDEN = {"\\bcatch\\b", "\\bfinally\\b", "\\bsynchronized\\b", "\\bassert\\b",
        "->", "::", "\\bInteger\\.MAX_VALUE\\b", "\\w+Exact\\(", "\\bprotected\\b", "\\bThread\\b", "\\bRandom\\b",
        "\\bSystem\\.(?!arraycopy)", "\\bcurrentTime", "\\bhashCode\\b", "\\btoString\\b", "\\binstanceof\\b",
        "\\bOptional\\b", "\\bHashMap\\b", "\\bvar\\b", "\\bnull\\b", "\" \\+|\\+ \"", "\\bpackage\\b"};

    public static void main(String[] args) throws Exception {
        Path source = Path.of(args.length > 0 ? args[0] : ".").resolve("src/main/java/ElderTurn.java");
        List<String> lines = new ArrayList<>();
        for (String line : Files.readAllLines(source)) {
            lines.add(line.replaceAll("\"[^\"]*\"", "\"\"").replaceAll("//.*|/\\*\\*.*\\*/", "").stripTrailing());
        }
        words(lines);
        Map<String, Set<String>> calls = methods(lines);
        depth(calls);
        System.out.println(calls.size() + " methods looked at, " + wrong + " complaints");
        if (wrong != 0) {
            System.exit(1);
        }
    }

    private static void complain(String what) {
        wrong++;
        System.out.println(what);
    }

    private static void words(List<String> lines) {
        int imports = 0;
        int classes = 0;
        for (int i = 0; i < lines.size(); i++) {
            String line = lines.get(i);
            for (String word : FORBIDDEN) {
                if (Pattern.compile(word).matcher(line).find()) {
                    complain("line " + (i + 1) + " has " + word + ": " + line.strip());
                }
            }
            imports += line.startsWith("import ") ? 1 : 0;
            classes += line.contains(" class ") ? 1 : 0;
            if (line.contains(" static ") && line.contains("=") && !line.contains(" final ")) {
                complain("line " + (i + 1) + " has static state: " + line.strip());
            }
            if (line.contains(" class ") && i > 5 && !line.contains("private static final class")) {
                complain("line " + (i + 1) + " has a class that isn't private and static");
            }
        }
        if (imports != 1 || !lines.contains("import java.util.NoSuchElementException;")) {
            complain("imports");
        }
        if (classes > 12) {
            complain(classes + " classes");
        }
    }

    private static Map<String, Set<String>> methods(List<String> lines) {
        Map<String, List<String>> bodies = new HashMap<>();
        Set<String> faces = new HashSet<>();
        List<String> others = new ArrayList<>();
        for (int i = 0; i < lines.size(); i++) {
            Matcher m = METHOD.matcher(lines.get(i));
            if (!m.matches() || m.group(3).equals("new")) {
                continue;
            }
            int end = i;
            while (!lines.get(end).equals(m.group(1) + "}")) {
                end++;
            }
            if (end - i > 60) {
                complain(m.group(4) + " has " + (end - i) + " lines");
            }
            if (m.group(5).split(",").length > 7) {
                complain(m.group(4) + " takes too many parameters");
            }
            for (String line : lines.subList(i + 1, end)) {
                if (Character.isLowerCase(m.group(4).charAt(0)) && line.matches(".*\\bnew\\b.*")
                        && !line.contains("throw new ")) {
                    complain(m.group(4) + " makes an object: " + line.strip());
                }
            }
            bodies.computeIfAbsent(m.group(4), k -> new ArrayList<>()).addAll(lines.subList(i + 1, end));
            if (m.group(2).contains("public")) {
                faces.add(m.group(4));
            } else {
                others.add(m.group(4));
            }
        }
        for (String name : others) {
            if (faces.contains(name)) {
                complain(name + " is the name of a public method");
            }
        }
        Map<String, Set<String>> calls = new HashMap<>();
        for (String name : bodies.keySet()) {
            Set<String> called = new HashSet<>();
            Matcher m = Pattern.compile("\\b(\\w+)\\(").matcher(String.join("\n", bodies.get(name)));
            while (m.find()) {
                if (bodies.containsKey(m.group(1))) {
                    called.add(m.group(1));
                }
            }
            calls.put(name, called);
        }
        return calls;
    }

    private static void depth(Map<String, Set<String>> calls) {
        List<String> deepest = new ArrayList<>();
        for (String name : calls.keySet()) {
            List<String> path = deepest(name, calls, new ArrayList<>());
            deepest = path.size() > deepest.size() ? path : deepest;
        }
        System.out.println("the deepest calls: " + deepest);
        if (deepest.size() > 8) {
            complain("calls go too deep");
        }
    }

    private static List<String> deepest(String name, Map<String, Set<String>> calls, List<String> open) {
        if (open.contains(name)) {
            complain(open + " come back to " + name);
            return open;
        }
        List<String> longer = new ArrayList<>(open);
        longer.add(name);
        List<String> deepest = longer;
        for (String called : calls.get(name)) {
            List<String> path = deepest(called, calls, longer);
            deepest = path.size() > deepest.size() ? path : deepest;
        }
        return deepest;
    }
}
