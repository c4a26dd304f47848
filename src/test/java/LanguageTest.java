import java.io.IOException;
import java.nio.file.Files;
import java.nio.file.Path;
import java.util.ArrayList;
import java.util.LinkedHashMap;
import java.util.List;
import java.util.Map;
import java.util.Set;
import java.util.TreeMap;
import java.util.TreeSet;
import java.util.regex.Matcher;
import java.util.regex.Pattern;

/** LANGUAGE.md, as far as the class's text shows it; FaceTest looks at what reflection shows. */
public final class LanguageTest {
    private static final Path SOURCE = Path.of("src/main/java/GallopDispatch.java");
    private static final Set<String> LIBRARY = Set.of("Math.abs", "Math.min", "Math.max", "Math.floorMod",
        "Math.floorDiv", "Integer.bitCount", "Arrays.fill", "Arrays.copyOf", "Arrays.copyOfRange", "System.arraycopy");
    private static final Set<String> IMPORTS = Set.of("java.util.Arrays", "java.util.NoSuchElementException");
    private static final Pattern METHOD = Pattern.compile("( {4}| {8})(?:(?:public|private|static) )*"
        + "(?:[\\w\\[\\]]+ )?(\\w+)\\(([^()]*)\\)(?: throws \\w+)? \\{");
    private static final int LINES = 60;
    private static final int DEEPEST = 8;

    private static Check check;
    private static List<String> lines;
    private static String code;

    public static void main(String[] args) throws IOException {
        check = new Check("LanguageTest");
        lines = withoutComments(Files.readAllLines(SOURCE));
        code = String.join("\n", lines);
        signs();
        library();
        exceptions();
        methods();
        check.end();
    }

    private static List<String> withoutComments(List<String> all) {
        List<String> out = new ArrayList<>();
        for (String line : all) {
            String bare = line.strip();
            boolean comment = bare.startsWith("//") || bare.startsWith("/*") || bare.startsWith("*");
            out.add(comment ? "" : line);
        }
        return out;
    }

    private static void none(String what, String pattern) {
        Matcher found = Pattern.compile(pattern).matcher(code);
        check.due(what + (found.find() ? ": " + found.group() : ""), found.reset().find(), false);
    }

    /** Rules 2, 3, 4, 6, 10: what may not stand in it at all. */
    private static void signs() {
        check.due("signs are 1 to 127", code.chars().allMatch(c -> c > 0 && c < 128), true);
        none("a package", "(?m)^package ");
        none("a lambda or a method reference", "->|::");
        none("a word that is left out", "\\b(try|catch|finally|synchronized|assert|var|record|yield|instanceof)\\b");
        none("arrays of three dimensions", "\\[\\]\\[\\]\\[\\]");
        none("doubles and floats", "\\b(double|float)\\b");
        none("a static initialiser", "\\bstatic \\{");
        none("static state", "\\bstatic (?!final )[\\w\\[\\]]+ \\w+( =|;)");
        none("texts joined by +", "\"\\s*\\+|\\+\\s*\"");
    }

    private static void library() {
        Matcher imported = Pattern.compile("(?m)^import ([\\w.]+);").matcher(code);
        while (imported.find()) {
            check.due("import of " + imported.group(1), IMPORTS.contains(imported.group(1)), true);
        }
        Matcher used = Pattern.compile("\\b(?:Math|Integer|Long|Arrays|System|String|Character)\\.\\w+").matcher(code);
        while (used.find()) {
            check.due(used.group(), LIBRARY.contains(used.group()), true);
        }
    }

    /** Rule 6, and the document: man alone throws. */
    private static void exceptions() {
        Matcher thrown = Pattern.compile("\\bthrow\\b([^;]*);").matcher(code);
        int count = 0;
        while (thrown.find()) {
            count++;
            check.due("throw" + thrown.group(1),
                thrown.group(1).matches(" new NoSuchElementException\\(\"[^\"]*\"\\)"), true);
        }
        check.due("throws", count, 1);
    }

    /** Rules 8 and 11. */
    private static void methods() {
        Map<String, String> bodies = bodies();
        check.due("methods are found, " + bodies.size(), bodies.size() > 120, true);
        Map<String, Set<String>> calls = new TreeMap<>();
        for (String name : bodies.keySet()) {
            Set<String> called = new TreeSet<>();
            Matcher call = Pattern.compile("\\b(\\w+)\\(").matcher(bodies.get(name));
            while (call.find()) {
                if (bodies.containsKey(call.group(1))) {
                    called.add(call.group(1));
                }
            }
            calls.put(name, called);
        }
        check.due("one that is known is found", calls.get("playAll").contains("speak"), true);
        for (String name : bodies.keySet()) {
            int deep = depth(name, calls, new LinkedHashMap<>());
            check.due(name + " goes " + deep + " deep", deep <= DEEPEST, true);
        }
    }

    /** Methods by name; those of one name, in several classes, are taken together. */
    private static Map<String, String> bodies() {
        Map<String, String> bodies = new TreeMap<>();
        for (int k = 0; k < lines.size(); k++) {
            Matcher head = METHOD.matcher(lines.get(k));
            if (!head.matches()) {
                continue;
            }
            int end = k + 1;
            while (!lines.get(end).equals(head.group(1) + "}")) {
                end++;
            }
            check.due(head.group(2) + " is short", end - k < LINES, true);
            check.due(head.group(2) + " takes at most seven", head.group(3).split(",").length <= 7, true);
            bodies.merge(head.group(2), String.join("\n", lines.subList(k + 1, end)), (a, b) -> a + "\n" + b);
            k = end;
        }
        return bodies;
    }

    private static boolean leadsTo(String from, String to, Map<String, Set<String>> calls, Set<String> met) {
        for (String next : calls.get(from)) {
            if (next.equals(to) || met.add(next) && leadsTo(next, to, calls, met)) {
                return true;
            }
        }
        return false;
    }

    /** Methods that call one another around count once. */
    private static int depth(String name, Map<String, Set<String>> calls, Map<String, Integer> open) {
        int most = 0;
        open.put(name, 0);
        for (String next : calls.get(name)) {
            boolean around = leadsTo(next, name, calls, new TreeSet<>());
            if (!open.containsKey(next)) {
                most = Math.max(most, depth(next, calls, open) - (around ? 1 : 0));
            }
        }
        open.remove(name);
        return most + 1;
    }
}
