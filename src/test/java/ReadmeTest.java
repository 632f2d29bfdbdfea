import java.io.IOException;
import java.lang.reflect.Method;
import java.lang.reflect.Modifier;
import java.nio.file.Files;
import java.nio.file.Path;
import java.util.Arrays;
import java.util.List;
import java.util.Set;
import java.util.TreeSet;
import java.util.regex.Matcher;
import java.util.regex.Pattern;
import java.util.stream.Stream;

/** README.md, run from the project's folder: each call it shows gives the answer behind it, and it names each test. */
public final class ReadmeTest {
    private static final Check CHECK = new Check("ReadmeTest");
    private static final Pattern TEXT = Pattern.compile("String text = \"(.*)\";");
    private static final Pattern CALL = Pattern.compile("x\\.(\\w+)\\((.*)\\); *// (-?\\d+)\\b.*");

    public static void main(String[] args) throws IOException, ReflectiveOperationException {
        List<String> readme = Files.readAllLines(Path.of("README.md"));
        calls(readme);
        String whole = String.join("\n", readme);
        try (Stream<Path> tests = Files.list(Path.of("src/test/java"))) {
            for (Path test : (Iterable<Path>) tests::iterator) {
                String name = test.getFileName().toString().replace(".java", "");
                hold("it names " + name, !name.endsWith("Test") || whole.contains("`" + name + "`"));
            }
        }
        Matcher named = Pattern.compile("`(\\w+Test)`").matcher(whole);
        while (named.find()) {
            hold("there is a " + named.group(1), Files.exists(Path.of("src/test/java/" + named.group(1) + ".java")));
        }
        CHECK.end();
    }

    private static void hold(String rule, boolean holds) {
        CHECK.due(rule, holds ? 1 : 0, 1);
    }

    private static void calls(List<String> readme) throws ReflectiveOperationException {
        GravelWords x = new GravelWords();
        Set<String> unshown = new TreeSet<>();
        for (Method method : GravelWords.class.getDeclaredMethods()) {
            if (Modifier.isPublic(method.getModifiers())) {
                unshown.add(method.getName());
            }
        }
        for (String line : readme) {
            Matcher text = TEXT.matcher(line);
            Matcher call = CALL.matcher(line);
            if (text.matches()) {
                Check.type(x, text.group(1));
            } else if (call.matches()) {
                CHECK.due(line, answer(x, call.group(1), call.group(2)), Long.parseLong(call.group(3)));
                unshown.remove(call.group(1));
            } else {
                hold("an answer stands behind " + line, !line.startsWith("x."));
            }
        }
        hold("each call is shown, not " + unshown, unshown.isEmpty());
    }

    private static long answer(GravelWords x, String call, String told) throws ReflectiveOperationException {
        Integer[] numbers = Stream.of(told.split(", ")).filter(one -> !one.isEmpty())
            .map(one -> one.startsWith("'") ? one.charAt(1) : Integer.parseInt(one)).toArray(Integer[]::new);
        Class<?>[] kinds = new Class<?>[numbers.length];
        Arrays.fill(kinds, int.class);
        Method method = GravelWords.class.getMethod(call, kinds);
        return ((Number) method.invoke(x, (Object[]) numbers)).longValue();
    }
}
