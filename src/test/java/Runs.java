import java.lang.reflect.InvocationTargetException;
import java.lang.reflect.Method;
import java.util.Arrays;
import java.util.Map;

/**
 * Runs of calls on new objects, told in words, under the sentence of the document that they hold the program to.
 * Each answer that is due is asked of the program and of the model. A run is a text, told first, and steps:
 * "cat 0 2 = 1" (a call and its answer), "3 x rains = 0" (thrice), "likely 0 1 = 1/6" (what = 0 and what = 1),
 * "board 0 = ab.#" (all cells of a drive: letters, blanks, trodden ones; it has no more), "round = 0 2" (all of it),
 * "typed w1 a;" (letter by letter), "tell w1 a;d1; = 2" (typed, and suburb()). Steps are told apart by ", ".
 */
final class Runs {
    private static final int CALLS_MOST = 512;
    private static final Map<String, Integer> NAMED =
        Map.of("BAD", -1, "STATE", -2, "FULL", -3, "NONE", -9, "NO", -1000000);

    private final Check check;
    private GravelWords program;
    private Model model;
    private int asked;
    private String sentence = "";
    private int runs;

    Runs(String name) {
        check = new Check(name);
    }

    /** Names the sentence that the program would break, were the runs behind it not as due. */
    void sentence(String words) {
        endOfSentence();
        sentence = words;
        runs = 0;
    }

    private void endOfSentence() {
        if (!sentence.isEmpty() && runs == 0) {
            check.due("runs of the sentence '" + sentence + "'", 0, 1);
        }
    }

    void end() {
        endOfSentence();
        check.end();
    }

    /** A new object, told nothing. */
    void bare(String... steps) {
        begin();
        steps(steps);
    }

    /** A new object that a whole text has told: as many items as it has ends of items. */
    void run(String text, String... steps) {
        begin();
        tell(text, (int) text.chars().filter(letter -> letter == ';').count());
        steps(steps);
    }

    void whole(String text) {
        run(text, "count 5 = 0");
    }

    /** A text that does not stand: its fault, twice, and it stays. */
    void fault(String text, int place) {
        begin();
        tell(text, -10 - place);
        ask("suburb", -10 - place);
        steps("count 5 = " + text.length(), "count 0 = 0, count 1 = 0, count 2 = 0");
    }

    private void begin() {
        program = new GravelWords();
        model = new Model();
        asked = 0;
        runs++;
    }

    private void steps(String... steps) {
        for (String some : steps) {
            for (String step : some.split(", ")) {
                step(step);
            }
        }
    }

    private void tell(String text, int answer) {
        typed(text);
        ask("suburb", answer);
    }

    private void step(String step) {
        if (step.startsWith("typed ")) {
            typed(step.substring(6));
            return;
        }
        int middle = step.lastIndexOf(" = ");
        String call = step.substring(0, middle);
        String want = step.substring(middle + 3);
        if (call.startsWith("tell ")) {
            tell(call.substring(5), number(want));
        } else if (call.startsWith("board ")) {
            board(number(call.substring(6)), want);
        } else if (call.equals("round")) {
            round(want.equals("none") ? new String[0] : want.split(" "));
        } else {
            calls(call.split(" "), want);
        }
    }

    private void calls(String[] parts, String want) {
        boolean often = parts.length > 2 && parts[1].equals("x");
        int times = often ? number(parts[0]) : 1;
        int from = often ? 2 : 0;
        int[] numbers = new int[parts.length - from - 1];
        for (int i = 0; i < numbers.length; i++) {
            numbers[i] = number(parts[from + 1 + i]);
        }
        for (int n = 0; n < times; n++) {
            if (want.indexOf('/') > 0) {
                int[] what = Arrays.copyOf(numbers, numbers.length + 1);
                String[] both = want.split("/");
                for (int i = 0; i < 2; i++) {
                    what[numbers.length] = i;
                    ask(parts[from], number(both[i]), what);
                }
            } else {
                ask(parts[from], number(want), numbers);
            }
        }
    }

    private static int number(String word) {
        return NAMED.containsKey(word) ? NAMED.get(word) : Integer.parseInt(word);
    }

    private void typed(String text) {
        int had = program.count(5);
        asked++;
        for (int i = 0; i < text.length(); i++) {
            ask("type", had + i + 1, text.charAt(i));
        }
    }

    private void board(int d, String want) {
        for (int i = 0; i < want.length(); i++) {
            char there = want.charAt(i);
            ask("cell", there == '#' ? -9 : there == '.' ? 8 : there - 'a', d, i);
        }
        ask("cell", -1, d, want.length());
    }

    private void round(String[] want) {
        ask("round", want.length, -1);
        for (int k = 0; k < 4; k++) {
            ask("round", k < want.length ? number(want[k]) : -9, k);
        }
    }

    private void ask(String call, int want, int... numbers) {
        String told = sentence + ": " + call + Arrays.toString(numbers);
        asked++;
        if (asked > CALLS_MOST) {
            check.due(told + ", the call's number", asked, CALLS_MOST);
        }
        check.due(told, answer(program, call, numbers), want);
        check.due("the model, " + told, answer(model, call, numbers), want);
    }

    private static long answer(Object of, String call, int[] numbers) {
        Class<?>[] kinds = new Class<?>[numbers.length];
        Arrays.fill(kinds, int.class);
        try {
            Method method = of.getClass().getDeclaredMethod(call, kinds);
            return ((Number) method.invoke(of, Arrays.stream(numbers).boxed().toArray())).longValue();
        } catch (InvocationTargetException thrown) {
            System.out.println(call + Arrays.toString(numbers) + " throws " + thrown.getCause());
            return Long.MIN_VALUE;
        } catch (ReflectiveOperationException none) {
            throw new IllegalArgumentException("there is no such call: " + call + Arrays.toString(numbers), none);
        }
    }
}
