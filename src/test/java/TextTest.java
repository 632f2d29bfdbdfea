/** Promises 1 to 4: a new object, type, clear, suburb. */
public final class TextTest {
    private static final Check CHECK = new Check("TextTest");

    public static void main(String[] args) {
        aNewObject();
        typing();
        fullText();
        wholeTexts();
        faultsOfItems();
        faultsOfWords();
        faultsOfDrives();
        faultsOfGoers();
        faultsOfSigns();
        textsThatEndTooEarly();
        aFaultChangesNothing();
        readAnew();
        nothingIsLeftOfWhatWasTold();
        CHECK.end();
    }

    private static void aNewObject() {
        GravelWords x = new GravelWords();
        for (int what = 0; what <= 5; what++) {
            CHECK.due("new: count(" + what + ")", x.count(what), 0);
        }
        CHECK.due("new: trace()", x.trace(), 0);
        CHECK.due("new: word(0, 0)", x.word(0, 0), -1);
        CHECK.due("new: letter(0, 0)", x.letter(0, 0), -1);
        CHECK.due("new: drive(0, 0)", x.drive(0, 0), -1);
        CHECK.due("new: cell(0, 0)", x.cell(0, 0), -1);
        CHECK.due("new: goer(0, 0)", x.goer(0, 0), -1);
        CHECK.due("new: undo()", x.undo(), -2);
        CHECK.due("new: back(0)", x.back(0), -2);
        CHECK.due("new: back(1)", x.back(1), -2);
        CHECK.due("new: clear()", x.clear(), 0);
        CHECK.due("new: rains()", x.rains(), 0);
        CHECK.due("new: round(-1)", x.round(-1), 0);
        CHECK.due("new: hour()", x.hour(), 0);
        CHECK.due("new: rate(0, 0)", x.rate(0, 0), -1000000);
    }

    private static void typing() {
        GravelWords x = new GravelWords();
        CHECK.due("type(0)", x.type(0), 1);
        CHECK.due("type(255)", x.type(255), 2);
        CHECK.due("type(-1)", x.type(-1), -1);
        CHECK.due("type(256)", x.type(256), -1);
        CHECK.due("type(least)", x.type(Integer.MIN_VALUE), -1);
        CHECK.due("type(most)", x.type(Integer.MAX_VALUE), -1);
        CHECK.due("type(32)", x.type(32), 3);
        CHECK.due("count(5)", x.count(5), 3);
        CHECK.due("clear()", x.clear(), 3);
        CHECK.due("clear() again", x.clear(), 0);
        CHECK.due("count(5) cleared", x.count(5), 0);
        CHECK.due("type(100)", x.type(100), 1);
    }

    private static void fullText() {
        GravelWords x = new GravelWords();
        for (int i = 1; i <= 150; i++) {
            CHECK.due("type " + i, x.type(32), i);
        }
        CHECK.due("type into the full text", x.type(32), -3);
        CHECK.due("BAD ahead of FULL", x.type(256), -1);
        CHECK.due("BAD ahead of FULL, below", x.type(-1), -1);
        CHECK.due("count(5) full", x.count(5), 150);
        CHECK.due("suburb() of blanks", x.suburb(), 0);
        CHECK.due("count(5) read", x.count(5), 0);
        for (int i = 1; i < 150; i++) {
            x.type(32);
        }
        CHECK.due("the last letter", x.type('q'), 150);
        CHECK.due("a fault at the last place", x.suburb(), -159);
        CHECK.due("clear() of the full text", x.clear(), 150);
    }

    private static void text(String text, int answer) {
        GravelWords x = new GravelWords();
        Check.type(x, text);
        CHECK.due("suburb() of '" + text + "'", x.suburb(), answer);
        CHECK.due("count(5) behind '" + text + "'", x.count(5), answer >= 0 ? 0 : text.length());
    }

    private static void wholeTexts() {
        text("", 0);
        text("    ", 0);
        text("w1a;", 1);
        text("  w  1  a  ;  ", 1);
        text("w9 abcdef;d8;g24 0 7 4;", 3);
        text("w1 h;w2 g;d1;g1 0 0 1;", 4);
        text("w1 w;", -13);
        text("w1 d;", 1);
        text("w1 g;", 1);
        text("d1;w1 a;d2;w1 b;", 4);
        text("w1 a;w2 a;w3 a;w4 a;w5 a;w6 a;d1;d2;d3;d4;g1 0 0 1;g2 1 1 2;g3 2 2 3;g4 3 3 4;g5 0 0 1;g6 0 0 1;", 16);
    }

    private static void faultsOfItems() {
        text(";", -10);
        text("  ;", -12);
        text("5", -10);
        text("a", -10);
        text("ww1 a;", -10);
        text("wd1;", -10);
        text("w1 a;;", -15);
        text("w1 a;5", -15);
        text("d1 d2;", -13);
        text("d1d2;", -12);
        text("w1 a;w1 a;w1 a;w1 a;w1 a;w1 a;w1 a;", -40);
        text("d1;d1;d1;d1;  d1;", -24);
        text("d1;g1 0 0 1;g1 0 0 1;g1 0 0 1;g1 0 0 1;g1 0 0 1;g1 0 0 1;g1 0 0 1;", -67);
        text("d1;g1 0 0 1;g1 0 0 1;g1 0 0 1;g1 0 0 1;g1 0 0 1;g1 0 0 1;g", -67);
    }

    private static void faultsOfWords() {
        text("w0 a;", -11);
        text("w10 a;", -11);
        text("w a;", -12);
        text("w;", -11);
        text("w1;", -12);
        text("w1 2;", -13);
        text("w1 abcdefa;", -13);
        text("w1 abi;", -13);
        text("w1 iab;", -13);
        text("w1 z;", -13);
        text("w1 a b;", -15);
        text("w1 a1;", -14);
        text("w1 2 a;", -13);
    }

    private static void faultsOfDrives() {
        text("d0;", -11);
        text("d9;", -11);
        text("d10;", -11);
        text("d;", -11);
        text("da;", -10);
        text("d a;", -12);
        text("d1 a;", -13);
        text("d8 8;", -13);
    }

    private static void faultsOfGoers() {
        text("g1 0 0 1;", -13);
        text("g1 0 0 1;d1;", -13);
        text("d1;g0 0 0 1;", -14);
        text("d1;g25 0 0 1;", -14);
        text("d1;g24 1 0 1;", -17);
        text("d1;d1;g24 1 0 1;", 3);
        text("d1;d1;g24 2 0 1;", -20);
        text("d1;g1 0 8 1;", -18);
        text("d1;g1 0 7 0;", -20);
        text("d1;g1 0 7 5;", -20);
        text("d1;g1 0 7;", -19);
        text("d1;g1 0;", -17);
        text("d1;g1;", -15);
        text("d1;g;", -14);
        text("d1;g1 0 0 1 1;", -22);
        text("d1;g1 0 0 a;", -20);
    }

    private static void faultsOfSigns() {
        text("?", -10);
        text("W1 a;", -10);
        text("w1 A;", -13);
        text("w1 a?;", -14);
        text("w1 a;\n", -15);
        text("w1\ta;", -12);
        text("w1 a" + (char) 225 + ";", -14);
        text("w1 a;" + (char) 0, -15);
        text("w1 a;{", -15);
        text("w1 a;`", -15);
        text("d/1;", -11);
        text("d:1;", -11);
        text("w100 a;", -11);
        text("w99 a;", -11);
        text("w01 a;", -11);
        text("d01;", -11);
        text("d1;g01 0 0 1;", -14);
        text("d1;g1 00 0 1;", -16);
        text("d1;g1 0 00 1;", -18);
        text("d1;g1 0 0 01;", -20);
        text("d1;d00000000000000000000000000000000001;", -14);
        text("d4294967297;", -11);
        text("d18446744073709551617;", -11);
        text("w1 i?;", -13);
        text("w1 ab?d;", -15);
        text("d1 ?;", -13);
    }

    private static void textsThatEndTooEarly() {
        text("w", -11);
        text("w ", -12);
        text("w1", -12);
        text("w1  ", -14);
        text("w1 a", -14);
        text("w1 a   ", -17);
        text("w1 a;d", -16);
        text("d1", -12);
        text("d1;g", -14);
        text("d1;g1", -15);
        text("d1;g1 0", -17);
        text("d1;g1 0 0", -19);
        text("d1;g1 0 0 1", -21);
    }

    private static void aFaultChangesNothing() {
        GravelWords x = CHECK.told("w3 bad;d4;g2 0 1 2;", 3);
        x.rakes(0, 0);
        x.cat(0, 1);
        x.hour();
        x.keep(1);
        x.rate(1, 0);
        Check.type(x, "w1 a;d2;d3;g1 1 0 1;x");
        CHECK.due("fault", x.suburb(), -30);
        CHECK.due("fault: count(0)", x.count(0), 1);
        CHECK.due("fault: count(1)", x.count(1), 1);
        CHECK.due("fault: count(2)", x.count(2), 1);
        CHECK.due("fault: count(3)", x.count(3), 1);
        CHECK.due("fault: count(4)", x.count(4), 3);
        CHECK.due("fault: count(5)", x.count(5), 21);
        CHECK.due("fault: word(0, 0)", x.word(0, 0), 3);
        CHECK.due("fault: word(0, 1)", x.word(0, 1), 3);
        CHECK.due("fault: letter(0, 0)", x.letter(0, 0), 1);
        CHECK.due("fault: drive(0, 0)", x.drive(0, 0), 4);
        CHECK.due("fault: goer(0, 0)", x.goer(0, 0), 2);
        CHECK.due("fault: cell(0, 0)", x.cell(0, 0), 1);
        CHECK.due("fault: cell(0, 1)", x.cell(0, 1), -9);
        CHECK.due("fault again", x.suburb(), -30);
        CHECK.due("fault: back(1)", x.back(1), 1);
        CHECK.due("fault: trace()", x.trace(), 11);
    }

    private static void readAnew() {
        GravelWords x = CHECK.told("w3 bad;w1 a;d4;d5;g2 0 1 2;g1 1 0 1;", 6);
        x.rakes(0, 0);
        x.rakes(1, 0);
        x.cat(0, 1);
        x.hour();
        x.keep(0);
        x.keep(1);
        x.rate(3, 0);
        Check.type(x, "d4;w2 ha;");
        CHECK.due("anew", x.suburb(), 2);
        CHECK.due("anew: count(0)", x.count(0), 1);
        CHECK.due("anew: count(1)", x.count(1), 1);
        CHECK.due("anew: count(2)", x.count(2), 0);
        CHECK.due("anew: count(3)", x.count(3), 0);
        CHECK.due("anew: count(4)", x.count(4), 0);
        CHECK.due("anew: count(5)", x.count(5), 0);
        CHECK.due("anew: undo()", x.undo(), -2);
        CHECK.due("anew: back(0)", x.back(0), -2);
        CHECK.due("anew: back(1)", x.back(1), -2);
        CHECK.due("anew: drive(0, 1)", x.drive(0, 1), 0);
        CHECK.due("anew: letter(0, 0)", x.letter(0, 0), 7);
        CHECK.due("anew: word(0, 0)", x.word(0, 0), 2);
        CHECK.due("anew: word(1, 0)", x.word(1, 0), -1);
        for (int c = 0; c < 4; c++) {
            CHECK.due("anew: cell(0, " + c + ")", x.cell(0, c), 8);
        }
        CHECK.due("anew: goer(0, 0)", x.goer(0, 0), -1);
        CHECK.due("anew: drive(1, 0)", x.drive(1, 0), -1);
        CHECK.due("anew: trace()", x.trace(), 1011);
        CHECK.due("told nothing", x.suburb(), 0);
        CHECK.due("told nothing: count(0)", x.count(0), 0);
        CHECK.due("told nothing: count(1)", x.count(1), 0);
        CHECK.due("told nothing: trace()", x.trace(), 1011);
    }

    private static void nothingIsLeftOfWhatWasTold() {
        GravelWords x = CHECK.told("w5 abc;w6 abd;w7 abe;d4;d4;g1 0 0 1;g1 0 1 1;g1 1 2 1;", 8);
        Check.type(x, "w1 ab;w2 abh;d4;g1 0 2 1;");
        CHECK.due("less is told", x.suburb(), 4);
        x.rakes(0, 1);
        CHECK.due("the goers that were: odds(0, 5, 1)", x.odds(0, 5, 1), 2);
        CHECK.due("the goers that were: hour()", x.hour(), 1);
        CHECK.due("the goers that were: drive(0, 1)", x.drive(0, 1), 12);
        CHECK.due("the words that were: FITS", x.drive(0, 2), 3);
        CHECK.due("the words that were: likely(0, 0, 1)", x.likely(0, 0, 1), 3);
        CHECK.due("the words that were: NEAR", x.word(0, 3), 1);
        CHECK.due("the words that were: letter(0, 2)", x.letter(0, 2), -1);
        CHECK.due("the drives that were: round(-1)", x.round(-1), 0);
        CHECK.due("the drives that were: cell(1, 0)", x.cell(1, 0), -1);
        x.undo();
        x.undo();
        x.rains();
        CHECK.due("bare: odds(0, 5, 1)", x.odds(0, 5, 1), 1);
    }
}
