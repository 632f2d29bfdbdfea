/** Promises 16 to 20 and 24: likely, spoil, round, odds, rate, trace. */
public final class LeftTest {
    private static final Check CHECK = new Check("LeftTest");

    public static void main(String[] args) {
        likely();
        spoil();
        roundByHours();
        roundByWays();
        roundByGoers();
        roundsAreTheFirst();
        roundAtLateHours();
        odds();
        rates();
        CHECK.end();
    }

    private static void fraction(String when, GravelWords x, int d, int w, int upper, int lower) {
        CHECK.due(when + ": likely(" + d + ", " + w + ", 0)", x.likely(d, w, 0), upper);
        CHECK.due(when + ": likely(" + d + ", " + w + ", 1)", x.likely(d, w, 1), lower);
    }

    private static void likely() {
        GravelWords x = CHECK.told("w2 ab;w4 ac;w6 ad;w1 abc;d2;d3;", 6);
        fraction("bare", x, 0, 0, 0, 1);
        x.rakes(0, 0);
        fraction("raked", x, 0, 0, 1, 1);
        fraction("raked", x, 0, 1, 0, 1);
        x.cat(0, 1);
        fraction("2 of 12", x, 0, 0, 1, 6);
        fraction("4 of 12", x, 0, 1, 1, 3);
        fraction("6 of 12", x, 0, 2, 1, 2);
        fraction("it is longer", x, 0, 3, 0, 1);
        x.treads(1, 0, 1);
        fraction("2 of 13", x, 1, 0, 2, 13);
        fraction("1 of 13", x, 1, 3, 1, 13);
        CHECK.due("likely(0, 0, 2)", x.likely(0, 0, 2), -1);
        CHECK.due("likely(0, 0, -1)", x.likely(0, 0, -1), -1);
        CHECK.due("likely(2, 0, 0)", x.likely(2, 0, 0), -1);
        CHECK.due("likely(-1, 0, 0)", x.likely(-1, 0, 0), -1);
        CHECK.due("likely(0, 4, 0)", x.likely(0, 4, 0), -1);
        CHECK.due("likely(0, -1, 0)", x.likely(0, -1, 0), -1);
        CHECK.due("likely(0, 32, 0)", x.likely(0, 32, 0), -1);
        GravelWords y = CHECK.told("w9 a;w9 b;w9 c;w9 d;w9 e;w9 f;d1;", 7);
        y.cat(0, 0);
        fraction("9 of 54", y, 0, 5, 1, 6);
    }

    private static void spoil() {
        GravelWords x = CHECK.told("w1 abcdef;w1 ab;d6;d2;d8;", 5);
        CHECK.due("bare: FIRST", x.spoil(0, 3, 0), 0);
        CHECK.due("bare: LETTERS", x.spoil(0, 3, 1), 0);
        x.rakes(0, 0);
        CHECK.due("by 1: FIRST", x.spoil(0, 1, 0), 0);
        CHECK.due("by 1: LETTERS", x.spoil(0, 1, 1), 6);
        CHECK.due("by 2: FIRST", x.spoil(0, 2, 0), 0);
        CHECK.due("by 2: LETTERS", x.spoil(0, 2, 1), 3);
        CHECK.due("by 4, cells 2 alone: FIRST", x.spoil(0, 4, 0), 2);
        CHECK.due("by 4: LETTERS", x.spoil(0, 4, 1), 1);
        x.cat(0, 1);
        CHECK.due("by 2, 1 trodden: FIRST", x.spoil(0, 2, 0), 1);
        CHECK.due("by 2, 1 trodden: LETTERS", x.spoil(0, 2, 1), 2);
        CHECK.due("by 3, 1 trodden: FIRST", x.spoil(0, 3, 0), 1);
        CHECK.due("by 3, 1 trodden: LETTERS", x.spoil(0, 3, 1), 1);
        x.rakes(1, 1);
        CHECK.due("by 4, beyond: FIRST", x.spoil(1, 4, 0), 2);
        CHECK.due("by 4, beyond: LETTERS", x.spoil(1, 4, 1), 0);
        x.rakes(2, 0);
        CHECK.due("by 4, blanks behind: FIRST", x.spoil(2, 4, 0), 2);
        CHECK.due("by 4, blanks behind: LETTERS", x.spoil(2, 4, 1), 1);
        x.rains();
        CHECK.due("what rain left: FIRST", x.spoil(2, 2, 0), 1);
        CHECK.due("what rain left: LETTERS", x.spoil(2, 2, 1), 0);
        CHECK.due("spoil(0, 0, 0)", x.spoil(0, 0, 0), -1);
        CHECK.due("spoil(0, 5, 0)", x.spoil(0, 5, 0), -1);
        CHECK.due("spoil(0, -1, 0)", x.spoil(0, -1, 0), -1);
        CHECK.due("spoil(3, 1, 0)", x.spoil(3, 1, 0), -1);
        CHECK.due("spoil(-1, 1, 0)", x.spoil(-1, 1, 0), -1);
        CHECK.due("spoil(0, 1, 2)", x.spoil(0, 1, 2), -1);
        CHECK.due("spoil(0, 1, -1)", x.spoil(0, 1, -1), -1);
        CHECK.due("nothing is changed", x.count(4), 5);
    }

    private static void round(String when, GravelWords x, int... want) {
        CHECK.due(when + ": round(-1)", x.round(-1), want.length);
        for (int k = 0; k < 4; k++) {
            CHECK.due(when + ": round(" + k + ")", x.round(k), k < want.length ? want[k] : -9);
        }
    }

    /** Every drive has word 0 raked on it. */
    private static GravelWords raked(String text, int items) {
        GravelWords x = CHECK.told(text, items);
        for (int d = 0; d < x.count(1); d++) {
            x.rakes(d, 0);
        }
        return x;
    }

    private static void roundByHours() {
        GravelWords x = CHECK.told("w1 b;w1 a;d1;d1;d1;d1;", 6);
        round("bare", x);
        x.rakes(1, 0);
        round("one", x, 1);
        x.rakes(3, 1);
        round("two", x, 1, 3);
        x.rakes(0, 1);
        round("three", x, 0, 1, 3);
        x.rakes(2, 1);
        round("four", x, 0, 1, 2, 3);
        x.cat(2, 0);
        round("one can't be read", x, 0, 1, 3);
        x.rains();
        round("one is blank", x, 0, 3);
        CHECK.due("round(-2)", x.round(-2), -1);
        CHECK.due("round(4)", x.round(4), -1);
        CHECK.due("round(most)", x.round(Integer.MAX_VALUE), -1);
        CHECK.due("round(least)", x.round(Integer.MIN_VALUE), -1);
    }

    private static void roundByWays() {
        // from 0 on to 3: read by 1, there at 4, read by 5
        round("3 at 6", raked("w1 a;d1;d1;d1;d1;g6 3 0 1;g1 1 0 1;g1 2 0 1;", 8), 0, 3);
        round("3 at 5", raked("w1 a;d1;d1;d1;d1;g5 3 0 1;g1 1 0 1;g1 2 0 1;", 8), 3, 0);
        // to 0 from 3 no sooner than 5
        round("3 at 5, 0 at 5", raked("w1 a;d1;d1;d1;d1;g5 3 0 1;g5 0 0 1;g1 1 0 1;g1 2 0 1;", 9), 0);
        // 1, 0: 1 and 3; 0, 1: 1 and 3
        round("0 at 3", raked("w1 a;d1;d1;g3 0 0 1;", 4), 0, 1);
        round("1 at 3", raked("w1 a;d1;d1;g3 1 0 1;", 4), 1, 0);
        round("both at 3", raked("w1 a;d1;d1;g3 1 0 1;g3 0 0 1;", 5), 0);
        round("both at 4", raked("w1 a;d1;d1;g4 1 0 1;g4 0 0 1;", 5), 0, 1);
    }

    private static void roundByGoers() {
        round("at once", raked("w1 a;d1;d1;g1 0 0 1;g2 1 0 1;", 5), 1);
        round("none", raked("w1 a;d1;d1;g1 0 0 1;g1 1 0 1;", 5));
        round("a goer that treads nothing comes, too", raked("w1 a;d1;d1;g1 0 7 1;", 4), 1);
        round("the earliest counts", raked("w1 a;d1;d1;g9 0 0 1;g2 0 0 1;", 5), 0, 1);
        round("all but 2", raked("w1 a;d1;d1;d1;d1;g1 2 0 1;", 6), 0, 1, 3);
        round("2 ahead of all", raked("w1 a;d1;d1;d1;d1;g2 2 0 1;", 6), 2, 0, 1, 3);
        round("3, 2 ahead", raked("w1 a;d1;d1;d1;d1;g2 3 0 1;g4 2 0 1;", 7), 3, 2, 0, 1);
    }

    private static void roundsAreTheFirst() {
        // three can be read, by several orders: of these the lowest first, then the second
        round("2 first, then 0", raked("w1 a;d1;d1;d1;g8 0 0 1;g2 2 0 1;", 6), 2, 0, 1);
        round("the last two", raked("w1 a;d1;d1;d1;d1;g5 1 0 1;", 6), 0, 1, 2, 3);
        round("3 can't be last", raked("w1 a;d1;d1;d1;d1;g7 3 0 1;", 6), 0, 1, 3, 2);
    }

    private static void roundAtLateHours() {
        GravelWords x = CHECK.told("w1 a;d2;d2;d2;g3 0 1 1;g5 1 1 1;g24 2 1 1;", 7);
        for (int h = 0; h < 3; h++) {
            x.hour();
        }
        x.rakes(0, 0);
        x.rakes(1, 0);
        x.rakes(2, 0);
        round("the goer of this hour counts", x, 1, 2);
        x.hour();
        round("the goer is gone", x, 0, 2);
        x.hour();
        round("hour 5", x, 0, 2);
        x.hour();
        round("hour 6", x, 0, 1, 2);
        for (int h = 7; h < 24; h++) {
            x.hour();
        }
        CHECK.due("count(3)", x.count(3), 23);
        round("hour 23", x, 0, 1);
        x.hour();
        round("hour 24", x, 0, 1);
        x.rakes(2, 0);
        round("hour 24, raked", x, 0, 1);
    }

    private static void odds(String when, GravelWords x, int d, int of, int upper, int lower) {
        CHECK.due(when + ": odds(" + d + ", " + of + ", 0)", x.odds(d, of, 0), upper);
        CHECK.due(when + ": odds(" + d + ", " + of + ", 1)", x.odds(d, of, 1), lower);
    }

    private static void odds() {
        GravelWords x = CHECK.told("w1 abcd;w1 a;d6;d4;g1 0 0 4;g2 0 1 4;g3 0 2 4;g4 0 4 1;g5 1 0 1;g6 0 3 4;", 10);
        odds("bare", x, 0, 10, 1, 1);
        x.rakes(0, 0);
        odds("four of five can spoil it", x, 0, 0, 1, 1);
        odds("four", x, 0, 10, 0, 1);
        odds("four", x, 0, 1, 6561, 10000);
        odds("four", x, 0, 2, 256, 625);
        odds("four", x, 0, 5, 1, 16);
        odds("four", x, 0, 8, 1, 625);
        odds("four", x, 0, 9, 1, 10000);
        x.hour();
        odds("three", x, 0, 5, 1, 8);
        odds("three", x, 0, 3, 343, 1000);
        x.rakes(0, 0);
        odds("the goer of this hour is gone", x, 0, 4, 27, 125);
        x.cat(0, 1);
        odds("b can't be read", x, 0, 4, 9, 25);
        x.rakes(0, 1);
        odds("a alone", x, 0, 10, 1, 1);
        odds("no letter", x, 1, 10, 1, 1);
        x.rakes(1, 1);
        odds("one", x, 1, 7, 3, 10);
        odds("one", x, 1, 10, 0, 1);
        GravelWords y = CHECK.told("w1 a;d1;g1 0 0 1;g2 0 0 1;g3 0 0 1;g4 0 0 1;g5 0 0 1;g24 0 0 1;", 8);
        y.rakes(0, 0);
        odds("six", y, 0, 1, 531441, 1000000);
        odds("six", y, 0, 9, 1, 1000000);
        odds("six", y, 0, 10, 0, 1);
        CHECK.due("odds(0, 11, 0)", y.odds(0, 11, 0), -1);
        CHECK.due("odds(0, -1, 0)", y.odds(0, -1, 0), -1);
        CHECK.due("odds(1, 0, 0)", y.odds(1, 0, 0), -1);
        CHECK.due("odds(-1, 0, 0)", y.odds(-1, 0, 0), -1);
        CHECK.due("odds(0, 0, 2)", y.odds(0, 0, 2), -1);
        CHECK.due("odds(0, 0, -1)", y.odds(0, 0, -1), -1);
    }

    private static void rates() {
        GravelWords x = CHECK.told("w7 bead;w9 ffffff;w1 ae;", 3);
        x.hour();
        x.hour();
        long trace = 0;
        int[] bodies = {1, 11, 101, 1011, 10101, 100001};
        int[][] want = {{4, 11, 2, 22, 2, 6}, {6, 15, 6, 30, 7, 8}, {2, 3, 0, 6, 2, 4}};
        for (int w = 0; w < 3; w++) {
            for (int kind = 0; kind < 6; kind++) {
                CHECK.due("rate(" + kind + ", " + w + ")", x.rate(kind, w), want[w][kind]);
                trace += bodies[kind];
                CHECK.due("trace() behind it", x.trace(), trace);
            }
        }
        CHECK.due("rate(6, 0)", x.rate(6, 0), -1000000);
        CHECK.due("rate(-1, 0)", x.rate(-1, 0), -1000000);
        CHECK.due("rate(0, 3)", x.rate(0, 3), -1000000);
        CHECK.due("rate(0, -1)", x.rate(0, -1), -1000000);
        CHECK.due("trace() refused", x.trace(), trace);
        x.undo();
        CHECK.due("trace() behind undo()", x.trace(), trace);
        CHECK.due("rate(5, 0) an hour less", x.rate(5, 0), 5);
        for (int n = 0; n < 400; n++) {
            x.rate(5, 0);
        }
        CHECK.due("trace() of many", x.trace(), trace + 401 * 100001L);
    }
}
