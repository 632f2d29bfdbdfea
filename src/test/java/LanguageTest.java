import java.io.IOException;
import java.lang.reflect.Constructor;
import java.lang.reflect.Field;
import java.lang.reflect.Method;
import java.lang.reflect.Modifier;
import java.nio.file.Files;
import java.nio.file.Path;
import java.util.ArrayList;
import java.util.HashSet;
import java.util.List;
import java.util.Set;
import java.util.TreeSet;
import java.util.regex.Matcher;
import java.util.regex.Pattern;

/** The document's face, and those rules of LANGUAGE.md that can be seen from the class and its source. */
public final class LanguageTest {
    private static final Check CHECK = new Check("LanguageTest");

    private static final List<String> FACE = List.of("int type(int)", "int clear()", "int suburb()", "int word(int,int)",
        "int letter(int,int)", "int drive(int,int)", "int cell(int,int)", "int goer(int,int)", "int rakes(int,int)",
        "int treads(int,int,int)", "int cat(int,int)", "int rains()", "int hour()", "int undo()", "int likely(int,int,int)",
        "int spoil(int,int,int)", "int round(int)", "int odds(int,int,int)", "int rate(int,int)", "int keep(int)",
        "int back(int)", "int count(int)", "long trace()");

    private static final Set<String> FORBIDDEN = Set.of("import", "package", "throw", "throws", "try", "catch", "finally",
        "synchronized", "volatile", "assert", "native", "equals", "hashCode", "toString", "Object", "System", "Thread",
        "Random", "Exception", "Error", "var", "yield", "protected", "instanceof", "lambda", "String", "StringBuilder",
        "double", "float", "goto");

    private static final Set<Class<?>> TYPES = Set.of(int.class, long.class, int[].class);

    public static void main(String[] args) throws IOException {
        constants();
        face();
        classes();
        source(Files.readString(Path.of(args.length > 0 ? args[0] : "src/main/java/GravelWords.java")));
        CHECK.end();
    }

    private static void hold(String rule, boolean holds) {
        CHECK.due(rule, holds ? 1 : 0, 1);
    }

    private static void constants() {
        CHECK.due("BAD", GravelWords.BAD, -1);
        CHECK.due("STATE", GravelWords.STATE, -2);
        CHECK.due("FULL", GravelWords.FULL, -3);
        CHECK.due("NONE", GravelWords.NONE, -9);
        CHECK.due("NO", GravelWords.NO, -1000000);
    }

    private static String signature(Method method) {
        List<String> kinds = new ArrayList<>();
        for (Class<?> kind : method.getParameterTypes()) {
            kinds.add(kind.getSimpleName());
        }
        return method.getReturnType().getSimpleName() + " " + method.getName() + "(" + String.join(",", kinds) + ")";
    }

    private static void face() {
        Set<String> shown = new TreeSet<>();
        Set<String> shownNames = new HashSet<>();
        for (Method method : GravelWords.class.getDeclaredMethods()) {
            if (Modifier.isPublic(method.getModifiers())) {
                shown.add(signature(method));
                shownNames.add(method.getName());
            }
        }
        hold("the methods are those of the document: " + shown, shown.equals(new TreeSet<>(FACE)));
        for (Method method : GravelWords.class.getDeclaredMethods()) {
            boolean shows = Modifier.isPublic(method.getModifiers());
            hold(method + " is public or private", shows || Modifier.isPrivate(method.getModifiers()) || method.isSynthetic());
            hold(method + " bears no public one's name", shows || !shownNames.contains(method.getName()));
        }
        Set<String> constants = new TreeSet<>();
        for (Field field : GravelWords.class.getDeclaredFields()) {
            hold(field + " is public or private", Modifier.isPublic(field.getModifiers()) || Modifier.isPrivate(field.getModifiers()));
            if (Modifier.isPublic(field.getModifiers())) {
                constants.add(field.getName());
            }
        }
        hold("the constants are those of the document", constants.equals(Set.of("BAD", "STATE", "FULL", "NONE", "NO")));
        Constructor<?>[] makers = GravelWords.class.getDeclaredConstructors();
        hold("one public constructor without arguments",
            makers.length == 1 && Modifier.isPublic(makers[0].getModifiers()) && makers[0].getParameterCount() == 0);
        int modifiers = GravelWords.class.getModifiers();
        hold("public and final", Modifier.isPublic(modifiers) && Modifier.isFinal(modifiers));
    }

    private static void classes() {
        List<Class<?>> all = new ArrayList<>(List.of(GravelWords.class.getDeclaredClasses()));
        for (Class<?> inside : all) {
            int modifiers = inside.getModifiers();
            hold(inside + " is static", Modifier.isStatic(modifiers));
            hold(inside + " is not shown", !Modifier.isPublic(modifiers) && !Modifier.isProtected(modifiers));
            hold(inside + " has none inside", inside.getDeclaredClasses().length == 0);
        }
        all.add(GravelWords.class);
        hold("twelve classes at most", all.size() <= 12);
        for (Class<?> one : all) {
            int fields = 0;
            for (Field field : one.getDeclaredFields()) {
                boolean constant = Modifier.isStatic(field.getModifiers());
                hold(field + ": static fields are final", !constant || Modifier.isFinal(field.getModifiers()));
                hold(field + ": static fields are numbers", !constant || field.getType() == int.class);
                hold(field + ": of a type of the language", TYPES.contains(field.getType()) || all.contains(field.getType())
                    || field.getType().isArray() && all.contains(field.getType().getComponentType()));
                fields += constant ? 0 : 1;
            }
            hold(one + " has twenty fields at most", fields <= 20);
            for (Method method : one.getDeclaredMethods()) {
                hold(method + " takes seven at most", method.getParameterCount() <= 7);
            }
        }
    }

    private static void source(String source) {
        hold("signs are 9, 10, 32 .. 126", source.chars().allMatch(c -> c == '\n' || c >= 32 && c < 127));
        String bare = source.replaceAll("(?s)/\\*.*?\\*/", "").replaceAll("//[^\n]*", "").replaceAll("'.'", "'x'");
        hold("no text, no lambda, no method reference", !bare.contains("\"") && !bare.contains("->") && !bare.contains("::"));
        Matcher words = Pattern.compile("[A-Za-z_][A-Za-z_0-9]*").matcher(bare);
        while (words.find()) {
            hold(words.group() + " is not in the language", !FORBIDDEN.contains(words.group()));
        }
        hold("no loop without a bound", !bare.contains("while (true)") && !bare.contains("for (;"));
        int open = 0;
        for (String line : source.split("\n")) {
            open = line.matches(" +[^*/]*\\) \\{") && !line.contains(" if (") && !line.contains(" for (") && !line.contains(" while (")
                && !line.contains(" switch (") ? 0 : open + 1;
            hold("a method has sixty lines at most", !line.matches(" {4,8}\\}") || open <= 60);
        }
    }
}
