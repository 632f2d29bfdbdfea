/** Promises 10 to 15: rakes, treads, cat, rains, hour, undo; 21 and 22: keep, back. */
public final class DoneTest {
    private static final Check CHECK = new Check("DoneTest");

    public static void main(String[] args) {
        raking();
        treading();
        cats();
        rain();
        hours();
        hourOfManyGoers();
        undoing();
        undoingTen();
        refusedIsNotUndone();
        images();
        imagesKeepAll();
        CHECK.end();
    }

    private static void cells(String when, GravelWords x, int d, int... want) {
        for (int c = 0; c < want.length; c++) {
            CHECK.due(when + ": cell(" + d + ", " + c + ")", x.cell(d, c), want[c]);
        }
        CHECK.due(when + ": LONG", x.drive(d, 0), want.length);
    }

    private static void raking() {
        GravelWords x = CHECK.told("w1 abcd;w1 h;d4;d8;d3;", 5);
        CHECK.due("rakes(0, 0)", x.rakes(0, 0), 0);
        cells("raked", x, 0, 0, 1, 2, 3);
        cells("raked beside", x, 1, 8, 8, 8, 8, 8, 8, 8, 8);
        CHECK.due("rakes(1, 0)", x.rakes(1, 0), 4);
        cells("raked longer", x, 1, 0, 1, 2, 3, 8, 8, 8, 8);
        CHECK.due("rakes(2, 0)", x.rakes(2, 0), -2);
        x.treads(0, 0, 1);
        CHECK.due("rakes(0, 1)", x.rakes(0, 1), 3);
        cells("raked over", x, 0, 7, 8, 8, 8);
        CHECK.due("raked over: TRODDEN", x.drive(0, 1), 0);
        CHECK.due("rakes(3, 0)", x.rakes(3, 0), -1);
        CHECK.due("rakes(-1, 0)", x.rakes(-1, 0), -1);
        CHECK.due("rakes(0, 2)", x.rakes(0, 2), -1);
        CHECK.due("rakes(0, -1)", x.rakes(0, -1), -1);
        CHECK.due("count(4)", x.count(4), 4);
    }

    private static void treading() {
        GravelWords x = CHECK.told("w1 abcdef;d8;d2;", 3);
        x.rakes(0, 0);
        CHECK.due("treads(0, 1, 3)", x.treads(0, 1, 3), 3);
        cells("trodden", x, 0, 0, -9, 2, 3, -9, 5, 8, -9);
        CHECK.due("treads(0, 1, 3) again", x.treads(0, 1, 3), 0);
        CHECK.due("treads(0, 1, 1)", x.treads(0, 1, 1), 4);
        CHECK.due("treads(0, 0, 1)", x.treads(0, 0, 1), 1);
        CHECK.due("treads(1, 2, 1) beyond", x.treads(1, 2, 1), 0);
        CHECK.due("treads(1, 7, 4) beyond", x.treads(1, 7, 4), 0);
        CHECK.due("treads(1, 1, 4)", x.treads(1, 1, 4), 1);
        CHECK.due("count(4)", x.count(4), 8);
        CHECK.due("treads(1, 8, 1)", x.treads(1, 8, 1), -1);
        CHECK.due("treads(1, -1, 1)", x.treads(1, -1, 1), -1);
        CHECK.due("treads(1, 0, 0)", x.treads(1, 0, 0), -1);
        CHECK.due("treads(1, 0, -1)", x.treads(1, 0, -1), -1);
        CHECK.due("treads(1, 0, 5)", x.treads(1, 0, 5), -1);
        CHECK.due("treads(2, 0, 1)", x.treads(2, 0, 1), -1);
        CHECK.due("treads(-1, 0, 1)", x.treads(-1, 0, 1), -1);
        CHECK.due("count(4) refused", x.count(4), 8);
        CHECK.due("drive(1, 1)", x.drive(1, 1), 2);
    }

    private static void cats() {
        GravelWords x = CHECK.told("w1 ab;d3;d8;", 3);
        CHECK.due("cat(0, 2)", x.cat(0, 2), 1);
        CHECK.due("cat(0, 0)", x.cat(0, 0), 2);
        CHECK.due("cat(0, 0) again", x.cat(0, 0), -2);
        CHECK.due("cat(0, 3)", x.cat(0, 3), -1);
        CHECK.due("cat(0, -1)", x.cat(0, -1), -1);
        CHECK.due("cat(0, 32)", x.cat(0, 32), -1);
        CHECK.due("cat(1, 7)", x.cat(1, 7), 1);
        CHECK.due("cat(2, 0)", x.cat(2, 0), -1);
        CHECK.due("cat(-1, 0)", x.cat(-1, 0), -1);
        CHECK.due("drive(0, 1)", x.drive(0, 1), 5);
        CHECK.due("drive(1, 1)", x.drive(1, 1), 128);
        CHECK.due("count(4)", x.count(4), 3);
    }

    private static void rain() {
        GravelWords x = CHECK.told("w1 abcdef;w1 hea;d6;d4;d2;", 5);
        CHECK.due("rain on bare drives", x.rains(), 0);
        x.rakes(0, 0);
        x.rakes(1, 1);
        x.treads(0, 2, 1);
        x.cat(1, 0);
        CHECK.due("b c d f and h, trodden ones, too", x.rains(), 5);
        cells("rain", x, 0, 0, 8, -9, -9, -9, -9);
        cells("rain", x, 1, -9, 4, 0, 8);
        CHECK.due("rain: TRODDEN stays", x.drive(0, 1), 60);
        CHECK.due("it rains again", x.rains(), 0);
        CHECK.due("count(4)", x.count(4), 7);
        x.undo();
        x.undo();
        CHECK.due("rain once more", x.rains(), 5);
    }

    private static void hours() {
        GravelWords x = CHECK.told("w1 abcd;d4;g2 0 1 2;g24 0 0 4;", 4);
        x.rakes(0, 0);
        CHECK.due("hour 1", x.hour(), 0);
        CHECK.due("hour 1: TRODDEN", x.drive(0, 1), 0);
        CHECK.due("hour 2", x.hour(), 1);
        CHECK.due("hour 2: TRODDEN", x.drive(0, 1), 10);
        for (int h = 3; h < 24; h++) {
            CHECK.due("hour " + h, x.hour(), 0);
        }
        CHECK.due("count(3)", x.count(3), 23);
        CHECK.due("hour 24", x.hour(), 1);
        CHECK.due("hour 24: TRODDEN", x.drive(0, 1), 11);
        CHECK.due("hour 25", x.hour(), -2);
        CHECK.due("count(3) at the end", x.count(3), 24);
        CHECK.due("count(4)", x.count(4), 10);
        CHECK.due("undo()", x.undo(), 9);
        CHECK.due("count(3) undone", x.count(3), 23);
        CHECK.due("undone: TRODDEN", x.drive(0, 1), 10);
        CHECK.due("hour 24 again", x.hour(), 1);
    }

    private static void hourOfManyGoers() {
        GravelWords x = CHECK.told("d8;d3;g1 0 0 4;g1 1 2 1;g2 1 0 1;g1 0 1 4;g1 1 7 1;", 7);
        CHECK.due("four come", x.hour(), 4);
        CHECK.due("drive 0", x.drive(0, 1), 1 + 16 + 2 + 32);
        CHECK.due("drive 1", x.drive(1, 1), 4);
        CHECK.due("one comes", x.hour(), 1);
        CHECK.due("drive 1, all", x.drive(1, 1), 7);
        CHECK.due("undo()", x.undo(), 1);
        CHECK.due("drive 1 undone", x.drive(1, 1), 4);
        CHECK.due("undo() again", x.undo(), 0);
        CHECK.due("drive 0 undone", x.drive(0, 1), 0);
        CHECK.due("count(3)", x.count(3), 0);
    }

    private static void undoing() {
        GravelWords x = CHECK.told("w1 bad;w1 he;d4;d3;", 4);
        CHECK.due("nothing yet", x.undo(), -2);
        x.rakes(0, 0);
        x.cat(0, 1);
        x.rakes(0, 1);
        x.rains();
        x.treads(0, 0, 2);
        CHECK.due("undo treads", x.undo(), 4);
        cells("undone treads", x, 0, 8, 4, 8, 8);
        CHECK.due("undo rains", x.undo(), 3);
        cells("undone rains", x, 0, 7, 4, 8, 8);
        CHECK.due("undo rakes", x.undo(), 2);
        cells("undone rakes", x, 0, 1, -9, 3, 8);
        x.hour();
        CHECK.due("count(4)", x.count(4), 3);
        CHECK.due("undo hour", x.undo(), 2);
        CHECK.due("count(3)", x.count(3), 0);
        CHECK.due("undo cat", x.undo(), 1);
        cells("undone cat", x, 0, 1, 0, 3, 8);
        CHECK.due("undo the first", x.undo(), 0);
        cells("undone all", x, 0, 8, 8, 8, 8);
        CHECK.due("no more", x.undo(), -2);
    }

    private static void undoingTen() {
        GravelWords x = CHECK.told("d8;d8;", 2);
        for (int c = 0; c < 8; c++) {
            x.cat(0, c);
            CHECK.due("count(4)", x.count(4), c + 1);
        }
        for (int c = 0; c < 5; c++) {
            x.cat(1, c);
        }
        CHECK.due("ten are known", x.count(4), 10);
        for (int left = 9; left >= 0; left--) {
            CHECK.due("undo()", x.undo(), left);
        }
        CHECK.due("no more", x.undo(), -2);
        CHECK.due("drive(0, 1)", x.drive(0, 1), 7);
        CHECK.due("drive(1, 1)", x.drive(1, 1), 0);
        for (int c = 0; c < 8; c++) {
            x.cat(1, c);
        }
        CHECK.due("known anew", x.count(4), 8);
        CHECK.due("undo() anew", x.undo(), 7);
        CHECK.due("drive(1, 1) anew", x.drive(1, 1), 127);
        for (int h = 0; h < 24; h++) {
            x.rains();
        }
        CHECK.due("such by which nothing becomes another, too", x.count(4), 10);
    }

    private static void refusedIsNotUndone() {
        GravelWords x = CHECK.told("w1 abc;d2;d3;", 3);
        x.rakes(0, 0);
        x.rakes(9, 9);
        x.treads(0, 9, 1);
        x.cat(0, 2);
        x.undo();
        x.back(0);
        x.keep(5);
        CHECK.due("count(4)", x.count(4), 0);
        x.cat(0, 1);
        x.cat(0, 1);
        CHECK.due("count(4)", x.count(4), 1);
        x.rakes(0, 0);
        CHECK.due("undo()", x.undo(), 0);
        CHECK.due("drive(0, 1)", x.drive(0, 1), 0);
    }

    private static void images() {
        GravelWords x = CHECK.told("w1 bad;d4;g1 0 3 1;", 3);
        CHECK.due("back(0) at first", x.back(0), -2);
        CHECK.due("back(1) at first", x.back(1), -2);
        CHECK.due("back(2)", x.back(2), -1);
        CHECK.due("back(-1)", x.back(-1), -1);
        CHECK.due("keep(2)", x.keep(2), -1);
        CHECK.due("keep(-1)", x.keep(-1), -1);
        CHECK.due("keep(32)", x.keep(32), -1);
        x.rakes(0, 0);
        x.cat(0, 0);
        CHECK.due("keep(0)", x.keep(0), 0);
        CHECK.due("keep leaves what can be undone", x.count(4), 2);
        CHECK.due("only image 0 is kept", x.back(1), -2);
        CHECK.due("refused: count(4)", x.count(4), 2);
        x.hour();
        x.rains();
        CHECK.due("keep(1)", x.keep(1), 1);
        cells("now", x, 0, -9, 0, 8, -9);
        CHECK.due("back(0)", x.back(0), 0);
        cells("image 0", x, 0, -9, 0, 3, 8);
        CHECK.due("nothing can be undone", x.undo(), -2);
        CHECK.due("count(4)", x.count(4), 0);
        CHECK.due("count(3)", x.count(3), 0);
        CHECK.due("back(1)", x.back(1), 1);
        cells("image 1", x, 0, -9, 0, 8, -9);
        CHECK.due("count(3)", x.count(3), 1);
        x.rains();
        CHECK.due("undo() behind back()", x.undo(), 0);
        CHECK.due("back(0) again", x.back(0), 0);
        cells("image 0 again", x, 0, -9, 0, 3, 8);
        x.rakes(0, 0);
        CHECK.due("keep(0) again", x.keep(0), 0);
        CHECK.due("undo() behind keep()", x.undo(), 0);
        CHECK.due("back(0) to the later image", x.back(0), 0);
        cells("the later image", x, 0, 1, 0, 3, 8);
    }

    private static void imagesKeepAll() {
        GravelWords x = CHECK.told("w3 bad;w1 e;d4;d1;d3;d8;g2 3 0 2;", 7);
        x.rakes(0, 0);
        x.rakes(1, 1);
        x.rakes(2, 0);
        x.rakes(3, 0);
        x.hour();
        x.hour();
        x.rate(0, 0);
        x.type(119);
        CHECK.due("keep(1)", x.keep(1), 2);
        for (int d = 0; d < 4; d++) {
            x.rakes(d, 1);
            x.treads(d, 0, 1);
        }
        x.rate(0, 0);
        CHECK.due("back(1)", x.back(1), 2);
        cells("image 1", x, 0, 1, 0, 3, 8);
        cells("image 1", x, 1, 4);
        cells("image 1", x, 2, 1, 0, 3);
        cells("image 1", x, 3, -9, 0, -9, 8, -9, 8, -9, 8);
        CHECK.due("the trace goes on", x.trace(), 2);
        CHECK.due("the text stays", x.count(5), 1);
        CHECK.due("word(0, 1)", x.word(0, 1), 3);
        x.rains();
        x.undo();
        CHECK.due("the trace goes on behind undo()", x.trace(), 2);
        cells("what rain left is undone under strides", x, 3, -9, 0, -9, 8, -9, 8, -9, 8);
        CHECK.due("b d, b d, d of what was trodden, too", x.rains(), 6);
    }
}
