import java.util.ArrayList;
import java.util.List;
import java.util.function.ToLongFunction;

/** "Refused, and nothing changes, the first of these: BAD .., STATE .., FULL.": all that can be asked is asked behind each. */
public final class RefusedTest {
    private static final Check CHECK = new Check("RefusedTest");
    private static final int BAD = -1, STATE = -2, FULL = -3, NO = -1000000;
    private static final int LEAST = Integer.MIN_VALUE, MOST = Integer.MAX_VALUE;
    private static final int[] NO_WORDS = {LEAST, -9, -2, -1, 3, 4, 6, 7, 32, 255, MOST};
    private static final int[] NO_DRIVES = {LEAST, -9, -2, -1, 2, 3, 4, 5, 32, 255, MOST};
    private static final int[] NO_CELLS = {LEAST, -8, -2, -1, 3, 7, 8, 9, 32, 255, MOST};
    private static final int[] NO_FIRSTS = {LEAST, -8, -2, -1, 8, 9, 32, 255, MOST};
    private static final int[] NO_STRIDES = {LEAST, -4, -2, -1, 0, 5, 6, 32, 255, MOST};
    private static final int[] NO_TWOS = {LEAST, -2, -1, 2, 3, 32, 255, MOST};
    private static final int[] NO_SIXES = {LEAST, -2, -1, 6, 7, 32, 255, MOST};
    private static final int[] NO_FOURS = {LEAST, -2, -1, 4, 5, 32, 255, MOST};
    private static final int[] NO_PLACES = {LEAST, -9, -3, -2, 4, 5, 32, 255, MOST};
    private static final int[] NO_ODDS = {LEAST, -2, -1, 11, 12, 32, 255, MOST};
    private static final int[] NO_LETTERS = {LEAST, -255, -32, -2, -1, 256, 257, 288, MOST};

    private static String before;

    public static void main(String[] args) {
        before = allThatCanBeAsked(afterMuch());
        told();
        done();
        left();
        kinds();
        texts();
        notBeforeTheFirst();
        CHECK.end();
    }

    /** More than ten that can be undone, one image, a text begun, a trace. */
    private static GravelWords afterMuch() {
        GravelWords x = new GravelWords();
        Check.type(x, "w3 bed;w9 bad;w2 abcdef;d3;d8;g2 0 2 1;g3 1 1 2;g24 1 0 4;");
        x.suburb();
        x.rakes(0, 0);
        x.rakes(1, 2);
        for (int n = 0; n < 5; n++) {
            x.treads(0, 7, 1);
        }
        x.cat(0, 1);
        x.cat(1, 5);
        x.keep(1);
        x.hour();
        x.treads(1, 0, 3);
        x.rains();
        x.undo();
        x.rate(3, 0);
        Check.type(x, "w1 a;d");
        return x;
    }

    private static void list(StringBuilder all, String what, long answer) {
        all.append(what).append(' ').append(answer).append('\n');
    }

    /** Changes the object: it is not asked again. */
    private static String allThatCanBeAsked(GravelWords x) {
        StringBuilder all = new StringBuilder();
        list(all, "trace", x.trace());
        for (int what = 0; what < 6; what++) {
            list(all, "count " + what, x.count(what));
        }
        for (int w = 0; w < 3; w++) {
            for (int what = 0; what < 4; what++) {
                list(all, "word " + w + " " + what, x.word(w, what));
            }
            for (int k = 0; k < x.word(w, 0); k++) {
                list(all, "letter " + w + " " + k, x.letter(w, k));
            }
            list(all, "rate " + w, x.rate(5, w));
        }
        for (int g = 0; g < 3; g++) {
            for (int what = 0; what < 4; what++) {
                list(all, "goer " + g + " " + what, x.goer(g, what));
            }
        }
        askDrives(all, x);
        list(all, "round", x.round(-1) * 100 + x.round(0) * 10 + x.round(1));
        for (int n = 0; n < 11; n++) {
            list(all, "undo", x.undo());
            askCells(all, x);
        }
        list(all, "back 0", x.back(0));
        list(all, "back 1", x.back(1));
        askCells(all, x);
        list(all, "the text: 5", x.type('5'));
        list(all, "the text: ;", x.type(';'));
        list(all, "the text", x.suburb());
        list(all, "its drive", x.drive(0, 0));
        list(all, "its word", x.word(0, 1));
        list(all, "trace", x.trace());
        return all.toString();
    }

    private static void askDrives(StringBuilder all, GravelWords x) {
        for (int d = 0; d < 2; d++) {
            for (int what = 0; what < 6; what++) {
                list(all, "drive " + d + " " + what, x.drive(d, what));
            }
            for (int w = 0; w < 3; w++) {
                list(all, "likely " + d + " " + w, x.likely(d, w, 0) * 100 + x.likely(d, w, 1));
            }
            for (int stride = 1; stride <= 4; stride++) {
                list(all, "spoil " + d + " " + stride, x.spoil(d, stride, 0) * 10 + x.spoil(d, stride, 1));
            }
            list(all, "odds " + d, x.odds(d, 3, 0) * 1000 + x.odds(d, 3, 1));
        }
    }

    private static void askCells(StringBuilder all, GravelWords x) {
        list(all, "hour", x.count(3));
        for (int c = 0; c < 8; c++) {
            list(all, "cell 0 " + c, x.cell(0, c));
            list(all, "cell 1 " + c, x.cell(1, c));
        }
    }

    /** One refused call, and all that can be asked behind it. */
    private static void refused(String call, ToLongFunction<GravelWords> asked, long answer) {
        GravelWords x = afterMuch();
        CHECK.due(call, asked.applyAsLong(x), answer);
        String now = allThatCanBeAsked(x);
        CHECK.due(call + " changes nothing", now.equals(before) ? 0 : 1, 0);
    }

    private static void told() {
        for (int w : NO_WORDS) {
            refused("word(" + w + ", 0)", x -> x.word(w, 0), BAD);
            refused("word(" + w + ", 3)", x -> x.word(w, 3), BAD);
            refused("letter(" + w + ", 0)", x -> x.letter(w, 0), BAD);
        }
        for (int what : NO_FOURS) {
            refused("word(0, " + what + ")", x -> x.word(0, what), BAD);
            refused("goer(0, " + what + ")", x -> x.goer(0, what), BAD);
        }
        for (int k : NO_CELLS) {
            refused("letter(0, " + k + ")", x -> x.letter(0, k), BAD);
            refused("cell(0, " + k + ")", x -> x.cell(0, k), BAD);
            refused("goer(" + k + ", 0)", x -> x.goer(k, 0), BAD);
        }
        for (int d : NO_DRIVES) {
            refused("drive(" + d + ", 0)", x -> x.drive(d, 0), BAD);
            refused("drive(" + d + ", 3)", x -> x.drive(d, 3), BAD);
            refused("cell(" + d + ", 0)", x -> x.cell(d, 0), BAD);
        }
        for (int what : NO_SIXES) {
            refused("drive(0, " + what + ")", x -> x.drive(0, what), BAD);
            refused("count(" + what + ")", x -> x.count(what), BAD);
        }
    }

    private static void done() {
        for (int d : NO_DRIVES) {
            refused("rakes(" + d + ", 0)", x -> x.rakes(d, 0), BAD);
            refused("rakes(" + d + ", 2)", x -> x.rakes(d, 2), BAD);
            refused("treads(" + d + ", 0, 1)", x -> x.treads(d, 0, 1), BAD);
            refused("cat(" + d + ", 0)", x -> x.cat(d, 0), BAD);
        }
        for (int w : NO_WORDS) {
            refused("rakes(0, " + w + ")", x -> x.rakes(0, w), BAD);
            refused("rakes(1, " + w + ")", x -> x.rakes(1, w), BAD);
        }
        for (int first : NO_FIRSTS) {
            refused("treads(1, " + first + ", 1)", x -> x.treads(1, first, 1), BAD);
            refused("treads(1, " + first + ", 4)", x -> x.treads(1, first, 4), BAD);
        }
        for (int stride : NO_STRIDES) {
            refused("treads(1, 0, " + stride + ")", x -> x.treads(1, 0, stride), BAD);
            refused("treads(0, 7, " + stride + ")", x -> x.treads(0, 7, stride), BAD);
        }
        for (int c : NO_CELLS) {
            refused("cat(0, " + c + ")", x -> x.cat(0, c), BAD);
        }
        refused("rakes(0, 2): the word is longer", x -> x.rakes(0, 2), STATE);
        refused("cat(0, 1): trodden", x -> x.cat(0, 1), STATE);
        refused("cat(1, 5): trodden", x -> x.cat(1, 5), STATE);
    }

    private static void left() {
        for (int d : NO_DRIVES) {
            refused("likely(" + d + ", 0, 0)", x -> x.likely(d, 0, 0), BAD);
            refused("spoil(" + d + ", 1, 0)", x -> x.spoil(d, 1, 0), BAD);
            refused("odds(" + d + ", 1, 0)", x -> x.odds(d, 1, 0), BAD);
        }
        for (int w : NO_WORDS) {
            refused("likely(0, " + w + ", 0)", x -> x.likely(0, w, 0), BAD);
        }
        for (int what : NO_TWOS) {
            refused("likely(0, 0, " + what + ")", x -> x.likely(0, 0, what), BAD);
            refused("spoil(0, 1, " + what + ")", x -> x.spoil(0, 1, what), BAD);
            refused("odds(0, 1, " + what + ")", x -> x.odds(0, 1, what), BAD);
        }
        for (int stride : NO_STRIDES) {
            refused("spoil(0, " + stride + ", 0)", x -> x.spoil(0, stride, 0), BAD);
        }
        for (int of : NO_ODDS) {
            refused("odds(0, " + of + ", 0)", x -> x.odds(0, of, 0), BAD);
        }
        for (int k : NO_PLACES) {
            refused("round(" + k + ")", x -> x.round(k), BAD);
        }
    }

    private static void kinds() {
        for (int kind : NO_SIXES) {
            refused("rate(" + kind + ", 0)", x -> x.rate(kind, 0), NO);
        }
        for (int w : NO_WORDS) {
            for (int kind = 0; kind < 6; kind++) {
                int of = kind;
                refused("rate(" + kind + ", " + w + ")", x -> x.rate(of, w), NO);
            }
        }
        for (int image : NO_TWOS) {
            refused("keep(" + image + ")", x -> x.keep(image), BAD);
            refused("back(" + image + ")", x -> x.back(image), BAD);
        }
        refused("back(0): none was kept", x -> x.back(0), STATE);
    }

    private static void texts() {
        for (int letter : NO_LETTERS) {
            refused("type(" + letter + ")", x -> x.type(letter), BAD);
        }
        refused("suburb(), the text ends too early", x -> x.suburb(), -16);
        List<String> faults = new ArrayList<>(List.of(";", "w1 a;w1 b;d9", "d1;d2;d3;d4;w9 abcdef;g1 3 7 4;?", "w1 a;w1 i", "d1;g1 1"));
        int[] places = {0, 11, 31, 8, 6};
        for (int n = 0; n < places.length; n++) {
            String text = faults.get(n);
            int answer = -10 - places[n];
            refused("suburb() of '" + text + "'", x -> {
                x.clear();
                Check.type(x, text);
                long fault = x.suburb();
                long stays = x.clear();
                Check.type(x, "w1 a;d");
                return stays == text.length() ? fault : 0;
            }, answer);
        }
    }

    /** What there is no state to refuse it in above: the last hour, nothing to be undone, the full text. */
    private static void notBeforeTheFirst() {
        GravelWords x = new GravelWords();
        CHECK.due("undo(): none", x.undo(), STATE);
        for (int h = 1; h <= 24; h++) {
            CHECK.due("hour " + h, x.hour(), 0);
        }
        CHECK.due("hour(): it is 24", x.hour(), STATE);
        CHECK.due("count(3)", x.count(3), 24);
        for (int left = 9; left >= 0; left--) {
            CHECK.due("undo()", x.undo(), left);
            CHECK.due("count(3)", x.count(3), left + 14);
        }
        CHECK.due("undo(): none any more", x.undo(), STATE);
        CHECK.due("count(3)", x.count(3), 14);
        for (int i = 1; i <= 150; i++) {
            CHECK.due("type " + i, x.type(i == 150 ? 'd' : 32), i);
        }
        CHECK.due("type(59): full", x.type(59), FULL);
        CHECK.due("type(256): full, and BAD ahead of it", x.type(256), BAD);
        CHECK.due("type(-1): full, and BAD ahead of it", x.type(-1), BAD);
        CHECK.due("the full text ends too early", x.suburb(), -160);
        CHECK.due("the full text stays", x.clear(), 150);
        CHECK.due("count(3)", x.count(3), 14);
        CHECK.due("back(0) at hour 14", x.back(0), STATE);
    }
}
