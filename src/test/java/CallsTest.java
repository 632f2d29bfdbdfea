import java.io.IOException;
import java.nio.file.Files;
import java.nio.file.Path;
import java.util.HashSet;
import java.util.Map;
import java.util.Set;
import java.util.TreeMap;
import java.util.TreeSet;
import java.util.regex.Matcher;
import java.util.regex.Pattern;

/** Rules 8, 9, 11, 12 of LANGUAGE.md: which method calls which, how loops end, where objects are made. */
public final class CallsTest {
    private static final Check CHECK = new Check("CallsTest");
    private static final Pattern DECLARED =
        Pattern.compile("( {4}| {8})((?:public |private |static |final )*)(\\w+(?:\\[\\])? )?(\\w+)\\(([^)]*)\\) \\{");
    private static final Pattern CALLED = Pattern.compile("(new )?\\b(\\w+)\\(");
    private static final Pattern FOR = Pattern.compile("for \\(int (\\w+) = [^;]+; \\1 (<|<=|>) [^;]+; \\1(\\+\\+|--| \\+= \\w+)\\) \\{");
    private static final int DEEPEST = 8;

    /** By their names, for each method: what stands ahead of its name, and what stands in it. */
    private static final Map<String, String> MARKS = new TreeMap<>();
    private static final Map<String, String> BODIES = new TreeMap<>();
    private static final Set<String> MAKERS = new HashSet<>();

    public static void main(String[] args) throws IOException {
        String source = Files.readString(Path.of(args.length > 0 ? args[0] : "src/main/java/GravelWords.java"));
        String bare = source.replaceAll("(?s)/\\*.*?\\*/", "").replaceAll("//[^\n]*", "");
        methods(bare.split("\n"));
        loops(bare.split("\n"));
        for (String name : BODIES.keySet()) {
            recursion(name);
            objects(name);
            int deep = deepFrom(name, new HashSet<>());
            hold(name + " goes eight deep at most, not " + deep, deep <= DEEPEST);
        }
        hold("all calls of the document and more are found: " + BODIES.keySet(), BODIES.size() > 60);
        CHECK.end();
    }

    private static void hold(String rule, boolean holds) {
        CHECK.due(rule, holds ? 1 : 0, 1);
    }

    private static void methods(String[] lines) {
        for (int i = 0; i < lines.length; i++) {
            Matcher line = DECLARED.matcher(lines[i]);
            if (!line.matches()) {
                continue;
            }
            StringBuilder body = new StringBuilder();
            String end = line.group(1) + "}";
            int from = i;
            while (!lines[++i].equals(end)) {
                body.append(lines[i]).append('\n');
            }
            hold(line.group(4) + " has sixty lines at most", i - from < 60);
            boolean makes = line.group(3) == null;
            if (makes) {
                MAKERS.add(line.group(4));
            }
            MARKS.merge(line.group(4), line.group(2), String::concat);
            BODIES.merge(line.group(4), body.toString(), String::concat);
        }
    }

    private static Set<String> calledBy(String name) {
        Set<String> called = new TreeSet<>();
        Matcher calls = CALLED.matcher(BODIES.get(name));
        while (calls.find()) {
            if (BODIES.containsKey(calls.group(2))) {
                called.add(calls.group(2));
            }
        }
        return called;
    }

    /** Rule 8 names a private static method that calls itself; no ring of several methods is needed. */
    private static void recursion(String name) {
        if (calledBy(name).contains(name)) {
            hold(name + " calls itself: then it is private and static",
                MARKS.get(name).contains("private ") && MARKS.get(name).contains("static "));
            hold(name + " calls itself: then it refuses what would go deeper", BODIES.get(name).contains(">= DRIVES_MOST) {"));
        }
    }

    /** Itself counts; a call of itself does not. */
    private static int deepFrom(String name, Set<String> open) {
        if (!open.add(name)) {
            hold(name + " is in no ring of methods", false);
            return 0;
        }
        int deepest = 0;
        for (String called : calledBy(name)) {
            deepest = called.equals(name) ? deepest : Math.max(deepest, deepFrom(called, open));
        }
        open.remove(name);
        return deepest + 1;
    }

    /** Rows are made with the object and used again: a call makes none. */
    private static void objects(String name) {
        hold(name + " makes no object", MAKERS.contains(name) || !BODIES.get(name).contains("new "));
    }

    private static void loops(String[] lines) {
        int loops = 0;
        for (String line : lines) {
            String told = line.trim();
            if (told.startsWith("for (")) {
                hold("its end is seen: " + told, FOR.matcher(told).matches());
                loops++;
            } else if (told.contains("while (")) {
                hold("its end is seen: " + told, told.matches("while \\(.*\\w+ (<|<=) \\w+.*\\) \\{"));
                loops++;
            }
            hold("no loop of another form: " + told, !told.startsWith("do {"));
        }
        hold("loops are found", loops > 20);
    }
}
