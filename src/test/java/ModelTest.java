import java.util.Random;
import java.util.function.LongSupplier;

/** Every promise by many calls, against a model that finds each answer by other means; and no call throws. */
public final class ModelTest {
    private static final Check CHECK = new Check("ModelTest");
    private static final Random DICE = new Random(20261119);
    private static final int RUNS = 1500, CALLS = 512;
    private static final int[] WILD = {Integer.MIN_VALUE, -9, -2, -1, 31, 32, 33, 64, 255, 256, Integer.MAX_VALUE};
    private static final String SIGNS = "wdg;;  0123456789abcdefghiz?A/:`{\n";

    private static GravelWords x;
    private static Model model;
    private static int run;
    private static int asked;

    public static void main(String[] args) {
        for (run = 1; run <= RUNS; run++) {
            x = new GravelWords();
            model = new Model();
            asked = 0;
            play();
        }
        CHECK.end();
    }

    private static void play() {
        tell(text());
        while (asked < CALLS) {
            if (DICE.nextInt(60) == 0) {
                tell(DICE.nextInt(4) == 0 ? spoilt(text()) : text());
            }
            if (DICE.nextInt(40) == 0) {
                lookAtAll();
            }
            call(DICE.nextInt(23));
        }
    }

    private static int below(int n) {
        return DICE.nextInt(n);
    }

    /** Mostly a number below n, seldom one that is not. */
    private static int near(int n) {
        int odd = below(40);
        return odd == 0 ? WILD[below(WILD.length)] : odd == 1 ? n : odd == 2 ? -1 : below(n);
    }

    private static int drive() {
        return near(Math.max(1, model.count(1)));
    }

    private static int word() {
        return near(Math.max(1, model.count(0)));
    }

    private static String gap(boolean needed) {
        return " ".repeat(below(12) == 0 ? 2 : needed || below(4) == 0 ? 1 : 0);
    }

    /** A text by which words are often alike, and drives often trodden. */
    private static String text() {
        StringBuilder text = new StringBuilder();
        int letters = 1 + below(8);
        int words = below(7);
        int drives = below(5);
        int goers = drives == 0 ? 0 : below(7);
        int hours = below(3) == 0 ? 24 : 8;
        for (int w = 0; w < words; w++) {
            text.append(gap(false)).append('w').append(gap(false)).append(1 + below(9)).append(gap(false));
            for (int k = 1 + below(below(2) == 0 ? 6 : 3); k > 0; k--) {
                text.append((char) ('a' + below(letters)));
            }
            text.append(gap(false)).append(';');
        }
        for (int d = 0; d < drives; d++) {
            text.append('d').append(gap(false)).append(1 + below(8)).append(gap(false)).append(';');
        }
        for (int g = 0; g < goers; g++) {
            text.append('g').append(gap(false)).append(1 + below(hours)).append(gap(true)).append(below(drives));
            text.append(gap(true)).append(below(8)).append(gap(true)).append(1 + below(4)).append(gap(false)).append(';');
        }
        return text.toString();
    }

    private static String spoilt(String text) {
        StringBuilder other = new StringBuilder(text);
        for (int n = below(3); n >= 0; n--) {
            int place = below(other.length() + 1);
            char sign = SIGNS.charAt(below(SIGNS.length()));
            switch (below(4)) {
                case 0 -> other.insert(place, sign);
                case 1 -> other.setLength(place);
                case 2 -> other.replace(place, Math.min(place + 1, other.length()), "");
                default -> other.replace(place, Math.min(place + 1, other.length()), String.valueOf(sign));
            }
        }
        return other.toString();
    }

    private static void tell(String text) {
        if (below(3) != 0) {
            due("clear()", () -> x.clear(), model.clear());
        }
        for (int i = 0; i < text.length(); i++) {
            int letter = text.charAt(i);
            due("type(" + letter + ")", () -> x.type(letter), model.type(letter));
        }
        due("suburb() of '" + text + "'", () -> x.suburb(), model.suburb());
    }

    private static void lookAtAll() {
        for (int d = 0; d < model.count(1); d++) {
            for (int i = 0; i < 8; i++) {
                int drive = d;
                int n = i;
                due("cell(" + d + ", " + i + ")", () -> x.cell(drive, n), model.cell(drive, n));
                due("drive(" + d + ", " + i + ")", () -> x.drive(drive, n), model.drive(drive, n));
            }
        }
        for (int k = -1; k < 4; k++) {
            int n = k;
            due("round(" + k + ")", () -> x.round(n), model.round(n));
        }
    }

    private static void call(int which) {
        switch (which) {
            case 0, 1, 2 -> callOfDrives(which);
            case 3, 4, 5, 6, 7, 8, 9, 10 -> callOfDoing(which);
            case 11, 12, 13, 14, 15 -> callOfWhatIsLeft(which);
            default -> callOfOthers(which);
        }
    }

    private static void callOfDrives(int which) {
        int d = drive();
        int n = near(which == 0 ? 6 : 8);
        if (which == 0) {
            due("drive(" + d + ", " + n + ")", () -> x.drive(d, n), model.drive(d, n));
        } else if (which == 1) {
            due("cell(" + d + ", " + n + ")", () -> x.cell(d, n), model.cell(d, n));
        } else {
            int g = near(6);
            due("goer(" + g + ", " + n + ")", () -> x.goer(g, n), model.goer(g, n));
        }
    }

    private static void callOfDoing(int which) {
        int d = drive();
        int w = word();
        int n = near(8);
        int stride = 1 + near(4);
        switch (which) {
            case 3, 4 -> due("rakes(" + d + ", " + w + ")", () -> x.rakes(d, w), model.rakes(d, w));
            case 5 -> due("treads(" + d + ", " + n + ", " + stride + ")", () -> x.treads(d, n, stride), model.treads(d, n, stride));
            case 6, 7 -> due("cat(" + d + ", " + n + ")", () -> x.cat(d, n), model.cat(d, n));
            case 8 -> {
                if (below(4) == 0) {
                    due("rains()", () -> x.rains(), model.rains());
                }
            }
            case 9 -> due("hour()", () -> x.hour(), model.hour());
            default -> due("undo()", () -> x.undo(), model.undo());
        }
    }

    private static void callOfWhatIsLeft(int which) {
        int d = drive();
        int w = word();
        int what = near(2);
        int stride = 1 + near(4);
        int of = near(11);
        int k = near(5) - 1;
        switch (which) {
            case 11 -> due("likely(" + d + ", " + w + ", " + what + ")", () -> x.likely(d, w, what), model.likely(d, w, what));
            case 12 -> due("spoil(" + d + ", " + stride + ", " + what + ")", () -> x.spoil(d, stride, what), model.spoil(d, stride, what));
            case 13 -> due("round(" + k + ")", () -> x.round(k), model.round(k));
            case 14 -> due("odds(" + d + ", " + of + ", " + what + ")", () -> x.odds(d, of, what), model.odds(d, of, what));
            default -> due("drive(" + d + ", 3)", () -> x.drive(d, 3), model.drive(d, 3));
        }
    }

    private static void callOfOthers(int which) {
        int w = word();
        int n = near(6);
        int image = near(2);
        switch (which) {
            case 16 -> due("word(" + w + ", " + n + ")", () -> x.word(w, n), model.word(w, n));
            case 17 -> due("letter(" + w + ", " + n + ")", () -> x.letter(w, n), model.letter(w, n));
            case 18 -> due("rate(" + n + ", " + w + ")", () -> x.rate(n, w), model.rate(n, w));
            case 19 -> due("keep(" + image + ")", () -> x.keep(image), model.keep(image));
            case 20 -> {
                if (below(3) == 0) {
                    due("back(" + image + ")", () -> x.back(image), model.back(image));
                }
            }
            case 21 -> due("count(" + n + ")", () -> x.count(n), model.count(n));
            default -> due("trace()", () -> x.trace(), model.trace());
        }
    }

    /** What later calls of one object answer is free. */
    private static void due(String call, LongSupplier answer, long want) {
        if (asked >= CALLS) {
            return;
        }
        asked++;
        long got;
        try {
            got = answer.getAsLong();
        } catch (RuntimeException thrown) {
            System.out.println("run " + run + ": " + call + " throws " + thrown);
            got = ~want;
        }
        CHECK.due("run " + run + ": " + call, got, want);
    }
}
