/** Promises 5 to 9: word, letter, drive, cell, goer; and of 23 what was told. */
public final class ToldTest {
    private static final Check CHECK = new Check("ToldTest");

    public static void main(String[] args) {
        words();
        doubts();
        letters();
        drives();
        fits();
        looks();
        tracks();
        cells();
        goers();
        counts();
        CHECK.end();
    }

    private static void words() {
        GravelWords x = CHECK.told("w9 abcdef;w1 h;", 2);
        CHECK.due("word(0, 0)", x.word(0, 0), 6);
        CHECK.due("word(0, 1)", x.word(0, 1), 9);
        CHECK.due("word(1, 0)", x.word(1, 0), 1);
        CHECK.due("word(1, 1)", x.word(1, 1), 1);
        CHECK.due("word(2, 0)", x.word(2, 0), -1);
        CHECK.due("word(-1, 0)", x.word(-1, 0), -1);
        CHECK.due("word(0, -1)", x.word(0, -1), -1);
        CHECK.due("word(0, 4)", x.word(0, 4), -1);
        CHECK.due("word(most, 0)", x.word(Integer.MAX_VALUE, 0), -1);
        CHECK.due("word(least, 0)", x.word(Integer.MIN_VALUE, 0), -1);
    }

    private static void doubts() {
        GravelWords alone = CHECK.told("w1 abc;d4;", 2);
        CHECK.due("no other: DOUBT", alone.word(0, 2), -9);
        CHECK.due("no other: NEAR", alone.word(0, 3), -9);
        GravelWords x = CHECK.told("w1 bead;w1 bed;w1 dead;w1 beef;w1 bead;w1 hhhhhh;", 6);
        CHECK.due("the same: DOUBT", x.word(0, 2), 0);
        CHECK.due("the same: NEAR", x.word(0, 3), 4);
        CHECK.due("the same, behind: DOUBT", x.word(4, 2), 0);
        CHECK.due("the same, behind: NEAR", x.word(4, 3), 0);
        CHECK.due("bed by bead and beef: DOUBT", x.word(1, 2), 2);
        CHECK.due("bed by bead and beef: NEAR", x.word(1, 3), 0);
        CHECK.due("dead: DOUBT", x.word(2, 2), 1);
        CHECK.due("dead, of bead and bead the lowest: NEAR", x.word(2, 3), 0);
        CHECK.due("beef, bead ahead of bed: DOUBT", x.word(3, 2), 2);
        CHECK.due("beef: NEAR", x.word(3, 3), 0);
        CHECK.due("all cells: DOUBT", x.word(5, 2), 6);
        CHECK.due("all cells: NEAR", x.word(5, 3), 0);
        x.rakes(0, 0);
        CHECK.due("it does not hang on drives", x.word(5, 2), 6);
        GravelWords blanks = CHECK.told("w1 a;w1 abcdef;w1 ab;", 3);
        CHECK.due("blanks differ from letters: DOUBT", blanks.word(1, 2), 4);
        CHECK.due("blanks differ from letters: NEAR", blanks.word(1, 3), 2);
        CHECK.due("a by ab: DOUBT", blanks.word(0, 2), 1);
        CHECK.due("a by ab: NEAR", blanks.word(0, 3), 2);
    }

    private static void letters() {
        GravelWords x = CHECK.told("w1 abcdef;w1 gh;", 2);
        for (int k = 0; k < 6; k++) {
            CHECK.due("letter(0, " + k + ")", x.letter(0, k), k);
        }
        CHECK.due("letter(0, 6)", x.letter(0, 6), -1);
        CHECK.due("letter(0, -1)", x.letter(0, -1), -1);
        CHECK.due("letter(1, 0)", x.letter(1, 0), 6);
        CHECK.due("letter(1, 1)", x.letter(1, 1), 7);
        CHECK.due("letter(1, 2)", x.letter(1, 2), -1);
        CHECK.due("letter(2, 0)", x.letter(2, 0), -1);
        CHECK.due("letter(-1, 0)", x.letter(-1, 0), -1);
    }

    private static void drives() {
        GravelWords x = CHECK.told("d1;d8;d3;d5;", 4);
        CHECK.due("drive(0, 0)", x.drive(0, 0), 1);
        CHECK.due("drive(1, 0)", x.drive(1, 0), 8);
        CHECK.due("drive(2, 0)", x.drive(2, 0), 3);
        CHECK.due("drive(3, 0)", x.drive(3, 0), 5);
        CHECK.due("drive(4, 0)", x.drive(4, 0), -1);
        CHECK.due("drive(-1, 0)", x.drive(-1, 0), -1);
        CHECK.due("drive(0, 6)", x.drive(0, 6), -1);
        CHECK.due("drive(0, -1)", x.drive(0, -1), -1);
        CHECK.due("drive(1, 1)", x.drive(1, 1), 0);
        x.treads(1, 1, 3);
        CHECK.due("drive(1, 1) trodden", x.drive(1, 1), 2 + 16 + 128);
        CHECK.due("drive(2, 1) not", x.drive(2, 1), 0);
        x.cat(1, 0);
        CHECK.due("drive(1, 1) by a cat", x.drive(1, 1), 1 + 2 + 16 + 128);
    }

    private static void fits() {
        GravelWords x = CHECK.told("w1 abc;w2 abd;w3 ab;w4 abcde;d4;d3;d1;", 7);
        CHECK.due("bare drive: FITS", x.drive(0, 2), 0);
        x.treads(0, 0, 1);
        CHECK.due("all trodden, one is longer: FITS", x.drive(0, 2), 7);
        x.treads(2, 0, 1);
        CHECK.due("all are longer: FITS", x.drive(2, 2), 0);
        x.rakes(0, 0);
        CHECK.due("raked: FITS", x.drive(0, 2), 1);
        x.cat(0, 2);
        CHECK.due("abc, abd, ab: FITS", x.drive(0, 2), 7);
        x.rakes(0, 0);
        x.cat(0, 3);
        CHECK.due("a blank is trodden: FITS", x.drive(0, 2), 1);
        x.rakes(1, 2);
        CHECK.due("blank behind: FITS", x.drive(1, 2), 4);
        x.cat(1, 2);
        CHECK.due("blank behind trodden: FITS", x.drive(1, 2), 7);
        x.rains();
        CHECK.due("a, blank: FITS", x.drive(1, 2), 0);
        x.cat(1, 1);
        CHECK.due("what rain left is trodden: FITS", x.drive(1, 2), 7);
    }

    private static void looks() {
        GravelWords x = CHECK.told("w2 abc;w3 adc;w4 ad;w1 ebc;d3;d4;", 6);
        x.rakes(0, 0);
        CHECK.due("none is trodden: LOOK", x.drive(0, 3), -9);
        x.cat(0, 2);
        CHECK.due("only one fits: LOOK", x.drive(0, 3), -9);
        x.cat(0, 1);
        CHECK.due("abc 2, adc 3, ad 4; cell 1: 7, cell 2: 5: LOOK", x.drive(0, 3), 2);
        x.cat(0, 0);
        CHECK.due("with ebc 1; cell 0: 9, cell 1: 7, cell 2: 6: LOOK", x.drive(0, 3), 2);
        x.rakes(1, 1);
        x.treads(1, 1, 1);
        CHECK.due("longer drive, all alike in cell 3: LOOK", x.drive(1, 3), 2);
        GravelWords y = CHECK.told("w5 ab;w5 ba;w9 ab;d2;d2;", 5);
        y.rakes(0, 0);
        CHECK.due("two are the same, none trodden: LOOK", y.drive(0, 3), -9);
        y.cat(0, 1);
        CHECK.due("two are the same: LOOK", y.drive(0, 3), 1);
        y.cat(0, 0);
        CHECK.due("of several the lowest: LOOK", y.drive(0, 3), 0);
        GravelWords z = CHECK.told("w9 aa;w9 ab;w9 ac;w9 ad;w9 ae;w9 af;d2;d3;", 8);
        z.treads(0, 0, 1);
        CHECK.due("9 by cell 1, 54 by cell 0: LOOK", z.drive(0, 3), 1);
        z.treads(1, 0, 1);
        CHECK.due("the same, with a blank: LOOK", z.drive(1, 3), 1);
        z.rakes(1, 0);
        z.cat(1, 2);
        CHECK.due("one fits: LOOK", z.drive(1, 3), -9);
        GravelWords first = CHECK.told("w9 ab;w5 cd;w5 ce;d2;", 4);
        first.treads(0, 0, 1);
        CHECK.due("cell 0: 10, cell 1: 9: LOOK", first.drive(0, 3), 1);
        GravelWords second = CHECK.told("w9 ab;w8 cd;w2 eb;d2;", 4);
        second.treads(0, 0, 1);
        CHECK.due("cell 0: 9, cell 1: 11: LOOK", second.drive(0, 3), 0);
        GravelWords third = CHECK.told("w5 ab;w2 ca;w2 da;w2 ea;w2 fb;d2;", 6);
        third.treads(0, 0, 1);
        CHECK.due("cell 0: 5, cell 1: 7: LOOK", third.drive(0, 3), 0);
        GravelWords same = CHECK.told("w9 a;w9 a;w9 a;w9 a;w9 a;w9 a;d4;", 7);
        same.rakes(0, 0);
        same.cat(0, 3);
        CHECK.due("54 by any: LOOK", same.drive(0, 3), 3);
        same.cat(0, 1);
        CHECK.due("54 by any, the lowest: LOOK", same.drive(0, 3), 1);
    }

    private static void tracks() {
        GravelWords x = CHECK.told("d8;d1;d4;d7;", 4);
        CHECK.due("bare, 8: TRACKS", x.drive(0, 4), 0);
        CHECK.due("bare, 8: the first", x.drive(0, 5), -9);
        CHECK.due("bare, 1: TRACKS", x.drive(1, 4), 28);
        CHECK.due("bare, 1: the first", x.drive(1, 5), 11);
        CHECK.due("bare, 7: TRACKS", x.drive(3, 4), 4);
        CHECK.due("bare, 7: the first", x.drive(3, 5), 71);
        x.treads(1, 0, 3);
        CHECK.due("0 of 1: TRACKS", x.drive(1, 4), 4);
        CHECK.due("0 of 1: the first", x.drive(1, 5), 1);
        x.treads(0, 0, 4);
        CHECK.due("0, 4 of 8: TRACKS", x.drive(0, 4), 1);
        CHECK.due("0, 4 of 8: the first", x.drive(0, 5), 4);
        x.cat(0, 2);
        CHECK.due("0, 2, 4 of 8: TRACKS", x.drive(0, 4), 0);
        CHECK.due("0, 2, 4 of 8: the first", x.drive(0, 5), -9);
        x.cat(0, 6);
        CHECK.due("0, 2, 4, 6 of 8, by cats, too: TRACKS", x.drive(0, 4), 1);
        CHECK.due("0, 2, 4, 6 of 8: the first", x.drive(0, 5), 2);
        x.treads(2, 1, 3);
        CHECK.due("1 of 4: TRACKS", x.drive(2, 4), 2);
        CHECK.due("1 of 4: the first", x.drive(2, 5), 13);
        x.treads(3, 6, 2);
        CHECK.due("6 of 7: TRACKS", x.drive(3, 4), 4);
        CHECK.due("6 of 7: the first", x.drive(3, 5), 61);
    }

    private static void cells() {
        GravelWords x = CHECK.told("w1 had;d5;d3;", 3);
        CHECK.due("bare cell", x.cell(0, 0), 8);
        x.rakes(0, 0);
        CHECK.due("cell(0, 0)", x.cell(0, 0), 7);
        CHECK.due("cell(0, 1)", x.cell(0, 1), 0);
        CHECK.due("cell(0, 2)", x.cell(0, 2), 3);
        CHECK.due("cell(0, 3)", x.cell(0, 3), 8);
        CHECK.due("cell(0, 4)", x.cell(0, 4), 8);
        CHECK.due("cell(0, 5)", x.cell(0, 5), -1);
        CHECK.due("cell(0, -1)", x.cell(0, -1), -1);
        CHECK.due("cell(1, 0)", x.cell(1, 0), 8);
        CHECK.due("cell(1, 3)", x.cell(1, 3), -1);
        CHECK.due("cell(2, 0)", x.cell(2, 0), -1);
        CHECK.due("cell(-1, 0)", x.cell(-1, 0), -1);
        x.treads(0, 2, 1);
        CHECK.due("cell(0, 1) beside", x.cell(0, 1), 0);
        CHECK.due("cell(0, 2) trodden", x.cell(0, 2), -9);
        CHECK.due("cell(0, 4) trodden", x.cell(0, 4), -9);
        CHECK.due("cell(0, 5) beyond", x.cell(0, 5), -1);
    }

    private static void goers() {
        GravelWords x = CHECK.told("d1;d2;g24 1 7 4;g1 0 0 1;", 4);
        int[][] want = {{24, 1, 7, 4}, {1, 0, 0, 1}};
        for (int g = 0; g < 2; g++) {
            for (int what = 0; what < 4; what++) {
                CHECK.due("goer(" + g + ", " + what + ")", x.goer(g, what), want[g][what]);
            }
        }
        CHECK.due("goer(2, 0)", x.goer(2, 0), -1);
        CHECK.due("goer(-1, 0)", x.goer(-1, 0), -1);
        CHECK.due("goer(0, 4)", x.goer(0, 4), -1);
        CHECK.due("goer(0, -1)", x.goer(0, -1), -1);
        CHECK.due("goer(1, -1)", x.goer(1, -1), -1);
    }

    private static void counts() {
        GravelWords x = CHECK.told("w1 a;w1 b;w1 c;d1;d1;g1 0 0 1;", 6);
        x.type(32);
        x.hour();
        x.hour();
        x.rains();
        x.undo();
        int[] want = {3, 2, 1, 2, 2, 1};
        for (int what = 0; what < 6; what++) {
            CHECK.due("count(" + what + ")", x.count(what), want[what]);
        }
        CHECK.due("count(6)", x.count(6), -1);
        CHECK.due("count(-1)", x.count(-1), -1);
    }
}
