/** The document's sentences on promises 5 to 9: word, letter, drive, cell, goer; on FITS, LOOK, TRACKS, DOUBT, NEAR. */
public final class ToldSentencesTest {
    private static final Runs OF = new Runs("ToldSentencesTest");

    public static void main(String[] args) {
        words();
        doubt();
        near();
        letters();
        drives();
        fits();
        look();
        lookAtNone();
        tracks();
        tracksOfAllThatCanBeTrodden();
        cells();
        goers();
        OF.end();
    }

    private static void words() {
        OF.sentence("word: 0 how long it is, 1 SAID, 2 DOUBT, 3 NEAR");
        OF.run("w9 abcdef;w1 h;", "word 0 0 = 6, word 0 1 = 9, word 0 2 = 6, word 0 3 = 1",
            "word 1 0 = 1, word 1 1 = 1, word 1 2 = 6, word 1 3 = 0");
        OF.sentence("word: BAD");
        OF.run("w9 abcdef;w1 h;", "word 2 0 = BAD, word 2 1 = BAD, word 2 2 = BAD, word 2 3 = BAD, word -1 0 = BAD",
            "word -1 2 = BAD",
            "word 0 -1 = BAD, word 0 4 = BAD, word 5 0 = BAD, word 6 0 = BAD, word 32 0 = BAD",
            "word 2147483647 2147483647 = BAD, word -2147483648 -2147483648 = BAD, word 0 2147483647 = BAD");
        OF.bare("word 0 0 = BAD, word 0 2 = BAD, word 0 3 = BAD");
    }

    private static void doubt() {
        OF.sentence("DOUBT of a WORD: the fewest cells that, TRODDEN, make some other WORD fit too");
        OF.run("w1 abc;w1 abd;w1 bbb;", "word 0 2 = 1, word 1 2 = 1, word 2 2 = 2");
        OF.run("w1 abcdef;w1 ghgabc;", "word 0 2 = 6, word 1 2 = 6");
        OF.run("w1 ab;w2 ab;w3 cd;", "word 0 2 = 0, word 1 2 = 0, word 2 2 = 2");
        OF.sentence("DOUBT: (of a DRIVE as LONG as the longest WORD)");
        OF.run("w1 a;w1 abcdef;", "word 0 2 = 5, word 1 2 = 5");
        OF.run("w1 a;w1 abc;w1 abcdef;", "word 0 2 = 2, word 1 2 = 2, word 2 2 = 3");
        OF.run("w1 abcdef;w1 bcdef;", "word 0 2 = 6, word 1 2 = 6");
        OF.run("w1 abcd;w1 abcdef;d1;", "word 0 2 = 2, cat 0 0 = 1, word 0 2 = 2, rains = 0, word 1 2 = 2");
        OF.sentence("DOUBT: NONE (there is no other)");
        OF.run("w1 a;", "word 0 2 = NONE");
        OF.run("w9 abcdef;d8;", "rakes 0 0 = 2, treads 0 0 1 = 8, word 0 2 = NONE");
    }

    private static void near() {
        OF.sentence("NEAR: by which other WORD");
        OF.run("w1 abc;w1 hhh;w1 abd;", "word 0 3 = 2, word 2 3 = 0, word 1 3 = 0");
        OF.run("w1 ab;w1 ab;", "word 0 3 = 1, word 1 3 = 0");
        OF.run("w1 a;w1 abcd;w1 abcdef;", "word 0 3 = 1, word 2 3 = 1, word 1 3 = 2");
        OF.sentence("NEAR: of several the lowest");
        OF.run("w1 aaa;w1 aab;w1 aac;w1 aad;", "word 0 3 = 1, word 1 3 = 0, word 2 3 = 0, word 3 3 = 0");
        OF.run("w1 a;w1 a;w1 a;w1 a;w1 a;w1 a;", "word 0 3 = 1, word 1 3 = 0, word 5 3 = 0, word 5 2 = 0");
        OF.run("w1 hhhhhh;w1 abc;w1 abcdef;", "word 0 3 = 1, word 0 2 = 6, word 1 3 = 2");
        OF.sentence("NEAR: NONE");
        OF.run("w1 a;", "word 0 3 = NONE");
    }

    private static void letters() {
        OF.sentence("letter: The k-th LETTER of a WORD (0 the first).");
        OF.run("w1 abcdef;w1 hg;", "letter 0 0 = 0, letter 0 1 = 1, letter 0 5 = 5, letter 1 0 = 7, letter 1 1 = 6");
        OF.sentence("letter: BAD (there are not so many, too)");
        OF.run("w1 abcdef;w1 hg;w1 a;", "letter 0 6 = BAD, letter 0 7 = BAD, letter 1 2 = BAD, letter 1 5 = BAD",
            "letter 2 1 = BAD",
            "letter 0 -1 = BAD, letter 1 -1 = BAD, letter 3 0 = BAD, letter -1 0 = BAD, letter -1 6 = BAD",
            "letter 0 2147483647 = BAD, letter 0 -2147483648 = BAD, letter 2147483647 0 = BAD");
    }

    private static void drives() {
        OF.sentence("drive: 0 LONG, 1 what is TRODDEN (bits of cells)");
        OF.run("d1;d8;d3;d5;", "drive 0 0 = 1, drive 1 0 = 8, drive 2 0 = 3, drive 3 0 = 5",
            "drive 1 1 = 0, cat 1 7 = 1, drive 1 1 = 128, cat 1 0 = 2, drive 1 1 = 129, treads 1 0 1 = 6, drive 1 1 = 255",
            "drive 0 1 = 0, drive 2 1 = 0, cat 0 0 = 1, drive 0 1 = 1, cat 3 4 = 1, drive 3 1 = 16");
        OF.sentence("drive: BAD");
        OF.run("d8;d3;", "drive 2 0 = BAD, drive 2 5 = BAD, drive 3 0 = BAD, drive 4 0 = BAD, drive -1 0 = BAD, drive -1 4 = BAD",
            "drive 0 6 = BAD, drive 0 -1 = BAD, drive 1 7 = BAD, drive 0 2147483647 = BAD, drive 2147483647 0 = BAD",
            "drive -2147483648 0 = BAD");
    }

    private static void fits() {
        OF.sentence("FITS of a DRIVE: WORDS (bits) that are no longer than it");
        OF.run("w1 abc;w1 abcd;w1 a;d3;", "treads 0 0 1 = 3, drive 0 2 = 5");
        OF.run("w1 ab;w1 abc;d1;d2;d3;", "cat 0 0 = 1, drive 0 2 = 0, treads 1 0 1 = 2, drive 1 2 = 1, treads 2 0 1 = 3",
            "drive 2 2 = 3");
        OF.run("w1 abcdef;d5;d6;d8;", "treads 0 0 1 = 5, drive 0 2 = 0, treads 1 0 1 = 6, drive 1 2 = 1, treads 2 0 1 = 8",
            "drive 2 2 = 1");
        OF.sentence("FITS: each cell that is not TRODDEN is as it would be, were they RAKED there");
        OF.run("w1 abc;w1 abd;w1 cbc;w1 abcd;d3;", "rakes 0 0 = 0, drive 0 2 = 1, cat 0 2 = 1, drive 0 2 = 3, cat 0 0 = 2",
            "drive 0 2 = 7");
        OF.run("w1 abc;w1 adc;d3;", "rakes 0 0 = 0, cat 0 0 = 1, cat 0 2 = 2, drive 0 2 = 1, rakes 0 1 = 0, cat 0 1 = 1",
            "drive 0 2 = 3");
        OF.run("w1 a;w1 a;w1 b;d1;", "rakes 0 1 = 0, drive 0 2 = 3, rakes 0 2 = 0, drive 0 2 = 4, cat 0 0 = 1, drive 0 2 = 7");
        OF.sentence("FITS: (BLANK behind them)");
        OF.run("w1 ab;w1 abc;w1 abcd;d5;", "rakes 0 0 = 3, drive 0 2 = 1, cat 0 2 = 1, drive 0 2 = 3, cat 0 4 = 2, drive 0 2 = 3",
            "cat 0 3 = 3, drive 0 2 = 7, rakes 0 2 = 1, drive 0 2 = 4, cat 0 3 = 1, drive 0 2 = 6");
        OF.run("w1 a;w1 abcdef;d8;", "rakes 0 0 = 7, treads 0 1 1 = 7, drive 0 2 = 3, rakes 0 1 = 2, treads 0 0 1 = 8",
            "drive 0 2 = 3");
        OF.sentence("FITS of a bare DRIVE");
        OF.run("w1 ab;w1 a;d3;d1;", "drive 0 2 = 0, cat 0 0 = 1, drive 0 2 = 2, cat 0 1 = 2, drive 0 2 = 3, drive 1 2 = 0");
        OF.run("d3;", "drive 0 2 = 0, treads 0 0 1 = 3, drive 0 2 = 0");
        OF.sentence("FITS behind RAIN");
        OF.run("w1 ab;w1 a;d2;", "rakes 0 0 = 0, rains = 1, drive 0 2 = 2");
        OF.run("w1 ab;w1 a;d2;", "rakes 0 0 = 0, cat 0 1 = 1, rains = 1, drive 0 2 = 3");
        OF.run("w1 ba;d2;", "rakes 0 0 = 0, rains = 1, drive 0 2 = 0, cat 0 0 = 1, drive 0 2 = 1");
        OF.sentence("FITS of all there may be");
        OF.run("w1 a;w1 b;w1 c;w1 d;w1 e;w1 fg;d1;d1;d1;d2;", "cat 3 0 = 1, drive 3 2 = 31, cat 3 1 = 2, drive 3 2 = 63");
    }

    private static void look() {
        OF.sentence("LOOK: the TRODDEN cell");
        OF.run("w1 a;w1 a;d3;", "rakes 0 0 = 2, cat 0 2 = 1, drive 0 3 = 2, cat 0 1 = 2, drive 0 3 = 1, cat 0 0 = 3",
            "drive 0 3 = 0");
        OF.run("w1 ab;w1 ac;d8;", "rakes 0 0 = 6, cat 0 7 = 1, cat 0 1 = 2, drive 0 3 = 1, cat 0 0 = 3, drive 0 3 = 1");
        OF.sentence("LOOK: by what is there (a LETTER, BLANK)");
        // cell 0: 4 and 5; cell 1: 1 and (BLANK) 8
        OF.run("w1 ab;w4 a;w4 b;d2;", "treads 0 0 1 = 2, drive 0 3 = 0");
        // cell 0: 7 and 2; cell 1: 6 and (BLANK) 3
        OF.run("w4 ab;w3 a;w2 cb;d2;", "treads 0 0 1 = 2, drive 0 3 = 1");
        OF.run("w1 ah;w1 bh;w1 ag;w1 bg;w1 cg;d2;", "treads 0 0 1 = 2, drive 0 3 = 0");
        OF.sentence("LOOK: the greatest WEIGHT of FITS that are alike is least");
        // by how often they are said: 9 and 10; by how many they are: 3 and 2
        OF.run("w9 ab;w1 cb;w1 cd;w1 ce;d2;", "treads 0 0 1 = 2, drive 0 3 = 0");
        // the greatest: 5 and 9; the least: 5 and 1
        OF.run("w5 ab;w4 cb;w1 cd;d2;", "treads 0 0 1 = 2, drive 0 3 = 0");
        OF.run("w9 aa;w9 ab;w9 ac;w9 ad;w9 ae;w9 af;d2;", "treads 0 0 1 = 2, drive 0 3 = 1");
        OF.sentence("LOOK: of FITS alone");
        // hac, were it counted: 11 by cell 1, 9 by cell 2
        OF.run("w2 aab;w3 aba;w9 hac;d3;", "rakes 0 0 = 0, treads 0 1 1 = 2, drive 0 2 = 3, drive 0 3 = 1");
        OF.run("w2 ab;w3 ba;w9 bca;d2;", "treads 0 0 1 = 2, drive 0 3 = 0");
        OF.sentence("LOOK: of several the lowest");
        OF.run("w5 ab;w5 ba;d2;", "treads 0 0 1 = 2, drive 0 3 = 0");
        OF.run("w5 hab;w5 hba;d3;", "rakes 0 0 = 0, treads 0 1 1 = 2, drive 0 3 = 1");
        OF.run("w9 a;w9 a;w9 a;w9 a;w9 a;w9 a;d8;", "rakes 0 0 = 7, cat 0 7 = 1, drive 0 3 = 7, cat 0 4 = 2, drive 0 3 = 4");
    }

    private static void lookAtNone() {
        OF.sentence("LOOK: NONE (fewer than two FIT ..)");
        OF.run("w1 ab;w1 cd;d2;", "cat 0 0 = 1, drive 0 2 = 0, drive 0 3 = NONE");
        OF.run("w1 ab;w1 cd;d2;", "rakes 0 0 = 0, cat 0 0 = 1, drive 0 2 = 1, drive 0 3 = NONE, cat 0 1 = 2, drive 0 3 = 0");
        OF.run("w1 ab;d2;", "treads 0 0 1 = 2, drive 0 3 = NONE");
        OF.run("w1 abc;w1 ab;d2;", "treads 0 0 1 = 2, drive 0 3 = NONE");
        OF.run("d2;", "treads 0 0 1 = 2, drive 0 3 = NONE");
        OF.sentence("LOOK: NONE (.. none is TRODDEN)");
        OF.run("w1 a;w1 a;d1;", "drive 0 3 = NONE, rakes 0 0 = 0, drive 0 2 = 3, drive 0 3 = NONE, treads 0 1 1 = 0",
            "drive 0 3 = NONE, cat 0 0 = 1, drive 0 3 = 0");
    }

    private static void tracks() {
        OF.sentence("TRACKS: FIRST (0 .. 7; beyond the DRIVE it treads nothing)");
        for (int cells = 1; cells <= 7; cells++) {
            OF.run("d" + cells + ";", "drive 0 4 = " + 4 * (8 - cells), "drive 0 5 = " + (10 * cells + 1));
        }
        OF.sentence("TRACKS: how many; the first; NONE.");
        OF.run("d8;", "drive 0 4 = 0, drive 0 5 = NONE, cat 0 1 = 1, cat 0 2 = 2, drive 0 4 = 0, drive 0 5 = NONE, undo = 1",
            "cat 0 4 = 2, cat 0 7 = 3, drive 0 4 = 1, drive 0 5 = 13");
        OF.sentence("TRACKS: by which alone just those cells that are TRODDEN would be");
        OF.run("d8;", "treads 0 0 4 = 2, drive 0 5 = 4, treads 0 2 4 = 2, drive 0 4 = 1, drive 0 5 = 2, treads 0 1 2 = 4",
            "drive 0 4 = 1, drive 0 5 = 1");
        OF.run("d8;", "treads 0 0 4 = 2, cat 0 1 = 3, drive 0 4 = 0, drive 0 5 = NONE");
        OF.sentence("TRACKS: (10 times FIRST and STRIDE)");
        OF.run("d8;", "cat 0 7 = 1, drive 0 4 = 4, drive 0 5 = 71");
        OF.run("d8;", "cat 0 4 = 1, drive 0 4 = 1, drive 0 5 = 44");
        OF.run("d1;", "cat 0 0 = 1, drive 0 4 = 4, drive 0 5 = 1");
    }

    /** Each set of cells on drives of each length. */
    private static void tracksOfAllThatCanBeTrodden() {
        OF.sentence("TRACKS: twos of FIRST (0 .. 7) and STRIDE (1 .. 4)");
        for (int cells = 1; cells <= 8; cells++) {
            for (int bits = 0; bits < 1 << cells; bits++) {
                StringBuilder steps = new StringBuilder("count 3 = 0");
                int trodden = 0;
                for (int x = 0; x < cells; x++) {
                    if ((bits >> x & 1) == 1) {
                        trodden++;
                        steps.append(", cat 0 ").append(x).append(" = ").append(trodden);
                    }
                }
                int first = -9;
                int tracks = 0;
                for (int two = 74; two > 0; two--) {
                    if (two % 10 >= 1 && two % 10 <= 4 && bitsOf(cells, two / 10, two % 10) == bits) {
                        tracks++;
                        first = two;
                    }
                }
                OF.run("d" + cells + ";", steps.toString(), "drive 0 1 = " + bits, "drive 0 4 = " + tracks,
            "drive 0 5 = " + first);
            }
        }
    }

    private static int bitsOf(int cells, int first, int stride) {
        int bits = 0;
        for (int x = 0; x < cells; x++) {
            bits += x >= first && (x - first) % stride == 0 ? 1 << x : 0;
        }
        return bits;
    }

    private static void cells() {
        OF.sentence("cell: What can be read in a cell of a DRIVE: a LETTER, 8: BLANK; NONE: it is TRODDEN.");
        OF.run("w1 hag;d5;d1;", "cell 0 0 = 8, cell 0 4 = 8, rakes 0 0 = 2, cell 0 0 = 7, cell 0 1 = 0, cell 0 2 = 6",
            "cell 0 3 = 8, cell 0 4 = 8",
            "cat 0 1 = 1, cell 0 1 = NONE, cell 0 0 = 7, cat 0 4 = 2, cell 0 4 = NONE, cell 0 3 = 8, cell 1 0 = 8",
            "rakes 0 0 = 2, board 0 = hag..");
        OF.sentence("cell: BAD.");
        OF.run("d5;d1;", "cell 0 5 = BAD, cell 0 7 = BAD, cell 0 8 = BAD, cell 0 -1 = BAD, cell 1 1 = BAD, cell 1 -1 = BAD",
            "cell 2 0 = BAD, cell 4 0 = BAD",
            "cell -1 0 = BAD, cell -1 8 = BAD, cell 0 2147483647 = BAD, cell 0 -2147483648 = BAD, cell 2147483647 0 = BAD",
            "treads 0 0 1 = 5, cell 0 5 = BAD");
    }

    private static void goers() {
        OF.sentence("goer: 0 HOUR, 1 DRIVE, 2 FIRST, 3 STRIDE.");
        OF.run("d1;d2;g24 1 7 4;g1 0 0 1;g9 0 5 2;", "goer 0 0 = 24, goer 0 1 = 1, goer 0 2 = 7, goer 0 3 = 4",
            "goer 1 0 = 1, goer 1 1 = 0, goer 1 2 = 0, goer 1 3 = 1, goer 2 0 = 9, goer 2 1 = 0, goer 2 2 = 5, goer 2 3 = 2");
        OF.sentence("goer: BAD.");
        OF.run("d1;d2;g24 1 7 4;g1 0 0 1;", "goer 2 0 = BAD, goer 2 3 = BAD, goer 5 0 = BAD, goer 6 0 = BAD, goer -1 0 = BAD",
            "goer -1 3 = BAD",
            "goer 0 -1 = BAD, goer 0 4 = BAD, goer 1 -1 = BAD, goer 1 4 = BAD, goer 0 2147483647 = BAD",
            "goer 2147483647 0 = BAD, goer -2147483648 -2147483648 = BAD");
    }
}
