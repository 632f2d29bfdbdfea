/** The document's sentences on promises 16 to 19: likely, spoil, round, odds. */
public final class LeftSentencesTest {
    private static final Runs OF = new Runs("LeftSentencesTest");
    private static final String RAKED_1 = "rakes 0 0 = 0", RAKED_2 = "rakes 0 0 = 0, rakes 1 0 = 0",
        RAKED_3 = RAKED_2 + ", rakes 2 0 = 0", RAKED_4 = RAKED_3 + ", rakes 3 0 = 0",
        RAKED_0_3 = "rakes 0 0 = 0, rakes 3 0 = 0";

    public static void main(String[] args) {
        likely();
        likelyAtItsEnds();
        likelyRefused();
        spoil();
        spoilAtItsEnds();
        roundByHoursAndWays();
        whatIsReadInTime();
        theBestOrder();
        theFirstOfSeveral();
        roundAtItsEnds();
        odds();
        oddsByAllNumbers();
        oddsAtTheirEnds();
        nothingIsChanged();
        OF.end();
    }

    private static void likely() {
        OF.sentence("LIKELY of a WORD on a DRIVE: how often it is SAID by the WEIGHT of FITS: a fraction, in least terms");
        OF.run("w2 ab;w4 ac;w6 ad;w1 abc;d2;d3;", "rakes 0 0 = 0, cat 0 1 = 1, likely 0 0 = 1/6, likely 0 1 = 1/3",
            "likely 0 2 = 1/2, likely 0 3 = 0/1",
            "treads 1 0 1 = 3, likely 1 0 = 2/13, likely 1 1 = 4/13, likely 1 2 = 6/13, likely 1 3 = 1/13");
        OF.run("w6 ab;w9 ac;d2;", "rakes 0 0 = 0, likely 0 0 = 1/1, cat 0 1 = 1, likely 0 0 = 2/5, likely 0 1 = 3/5");
        OF.run("w8 a;w4 b;w8 c;d1;", "cat 0 0 = 1, likely 0 0 = 2/5, likely 0 1 = 1/5, likely 0 2 = 2/5");
        OF.run("w3 ab;w3 ab;d2;", "rakes 0 1 = 0, likely 0 0 = 1/2, likely 0 1 = 1/2");
        OF.run("w9 a;w9 b;w9 c;w9 d;w9 e;w9 f;d1;", "cat 0 0 = 1, likely 0 0 = 1/6, likely 0 5 = 1/6");
        OF.run("w1 a;w9 b;w9 c;w9 d;w9 e;w9 f;d1;", "cat 0 0 = 1, likely 0 0 = 1/46, likely 0 5 = 9/46");
    }

    private static void likelyAtItsEnds() {
        OF.sentence("LIKELY: (0 by 1, if it does not fit)");
        OF.run("w9 ab;w9 cd;w9 abc;d2;", "likely 0 0 = 0/1, likely 0 1 = 0/1, rakes 0 0 = 0, likely 0 1 = 0/1",
            "likely 0 2 = 0/1, treads 0 0 1 = 2, likely 0 2 = 0/1, likely 0 1 = 1/2");
        OF.run("w9 ab;d1;", "cat 0 0 = 1, likely 0 0 = 0/1");
        OF.sentence("LIKELY: 1 by 1");
        OF.run("w9 ab;w5 cd;d2;", "rakes 0 0 = 0, likely 0 0 = 1/1, cat 0 0 = 1, likely 0 0 = 1/1, likely 0 1 = 0/1");
        OF.run("w7 a;d1;", "cat 0 0 = 1, likely 0 0 = 1/1");
    }

    private static void likelyRefused() {
        OF.sentence("likely: upper (what = 0), lower number (1). BAD.");
        OF.run("w2 ab;w4 ac;d2;", "treads 0 0 1 = 2, likely 0 0 0 = 1, likely 0 0 1 = 3, likely 0 0 2 = BAD",
            "likely 0 0 -1 = BAD, likely 1 0 0 = BAD, likely -1 0 0 = BAD",
            "likely 0 2 0 = BAD, likely 0 -1 0 = BAD, likely 0 2 1 = BAD, likely 0 32 0 = BAD, likely 0 6 1 = BAD",
            "likely 4 0 1 = BAD, likely 1 2 2 = BAD",
            "likely 0 0 2147483647 = BAD, likely 0 0 -2147483648 = BAD, likely 2147483647 0 0 = BAD",
            "likely 0 2147483647 0 = BAD, likely -2147483648 0 0 = BAD");
        OF.run("d1;", "likely 0 0 0 = BAD");
        OF.run("w1 a;", "likely 0 0 0 = BAD");
    }

    private static void spoil() {
        OF.sentence("SPOIL of a DRIVE by a STRIDE: the FIRST (less than the STRIDE) by which fewest LETTERS would be TRODDEN: which; how many.");
        OF.run("w1 abcdef;d6;", RAKED_1, "spoil 0 1 = 0/6, spoil 0 2 = 0/3, spoil 0 3 = 0/2, spoil 0 4 = 2/1");
        OF.run("w1 abcde;d5;", RAKED_1, "spoil 0 1 = 0/5, spoil 0 2 = 1/2, spoil 0 3 = 2/1, spoil 0 4 = 1/1");
        OF.run("w1 abcd;d4;", RAKED_1, "spoil 0 1 = 0/4, spoil 0 2 = 0/2, spoil 0 3 = 1/1, spoil 0 4 = 0/1");
        OF.run("w1 abc;d3;", RAKED_1, "spoil 0 2 = 1/1, spoil 0 3 = 0/1, spoil 0 4 = 3/0");
        OF.run("w1 a;d1;", RAKED_1, "spoil 0 1 = 0/1, spoil 0 2 = 1/0, spoil 0 3 = 1/0, spoil 0 4 = 1/0");
        OF.sentence("SPOIL: of several the lowest");
        OF.run("w1 ab;d8;", "spoil 0 1 = 0/0, spoil 0 4 = 0/0, rakes 0 0 = 6, spoil 0 2 = 0/1, spoil 0 3 = 2/0, spoil 0 4 = 2/0");
        OF.run("w1 abcdef;d8;", "rakes 0 0 = 2, spoil 0 4 = 2/1, cat 0 2 = 1, spoil 0 4 = 2/0, cat 0 3 = 2, spoil 0 4 = 2/0",
            "spoil 0 2 = 0/2, spoil 0 3 = 0/1");
    }

    private static void spoilAtItsEnds() {
        OF.sentence("SPOIL: LETTERS that can be read NOW");
        OF.run("w1 abcdef;d6;", RAKED_1, "cat 0 1 = 1, spoil 0 2 = 1/2, spoil 0 3 = 1/1, spoil 0 4 = 1/1, treads 0 0 1 = 5",
            "spoil 0 1 = 0/0, spoil 0 4 = 0/0");
        OF.run("w1 abcd;d8;", "rakes 0 0 = 4, spoil 0 4 = 0/1, rains = 3, spoil 0 1 = 0/1, spoil 0 2 = 1/0, spoil 0 4 = 1/0",
            "undo = 1, spoil 0 1 = 0/4");
        OF.run("w1 ab;d2;d2;", "rakes 1 0 = 0, spoil 0 1 = 0/0, spoil 1 1 = 0/2");
        OF.sentence("spoil: FIRST beyond the DRIVE treads nothing");
        OF.run("w1 ab;d2;", RAKED_1, "spoil 0 3 = 2/0, spoil 0 4 = 2/0");
        OF.sentence("spoil: BAD.");
        OF.run("w1 ab;d2;", RAKED_1, "spoil 0 0 0 = BAD, spoil 0 5 0 = BAD, spoil 0 -1 0 = BAD, spoil 1 1 0 = BAD",
            "spoil -1 1 0 = BAD, spoil 4 1 0 = BAD, spoil 0 1 2 = BAD",
            "spoil 0 1 -1 = BAD, spoil 0 0 1 = BAD, spoil 0 5 1 = BAD, spoil 1 5 2 = BAD, spoil 0 2147483647 0 = BAD",
            "spoil 0 -2147483648 0 = BAD",
            "spoil 2147483647 1 0 = BAD, spoil -2147483648 1 0 = BAD, spoil 0 1 2147483647 = BAD");
    }

    private static void roundByHoursAndWays() {
        OF.sentence("ROUND: beginning at THE HOUR at any DRIVE");
        OF.run("w1 a;d1;d1;d1;d1;g2 3 0 1;", "rakes 3 0 = 0, round = 3");
        OF.run("w1 a;d1;d1;d1;g2 1 0 1;", RAKED_3, "round = 1 0 2");
        OF.sentence("ROUND: it takes an HOUR to read one, as many HOURS as their numbers differ to go on to another");
        // 0 read at 1, 1 at 3
        OF.run("w1 a;d1;d1;g3 1 0 1;", RAKED_2, "round = 1 0");
        OF.run("w1 a;d1;d1;g4 1 0 1;", RAKED_2, "round = 0 1");
        OF.run("w1 a;d1;d1;g3 1 0 1;g3 0 0 1;", RAKED_2, "round = 0");
        OF.run("w1 a;d1;d1;g4 1 0 1;g2 0 0 1;", RAKED_2, "round = 0 1");
        OF.run("w1 a;d1;d1;g2 1 0 1;g4 0 0 1;", RAKED_2, "round = 1 0");
        // 0 read at 1, 2 at 4, 3 at 5
        OF.run("w1 a;d1;d1;d1;g4 2 0 1;", "rakes 0 0 = 0, rakes 2 0 = 0, round = 2 0");
        OF.run("w1 a;d1;d1;d1;g5 2 0 1;", "rakes 0 0 = 0, rakes 2 0 = 0, round = 0 2");
        OF.run("w1 a;d1;d1;d1;d1;g5 3 0 1;", RAKED_0_3, "round = 3 0");
        OF.run("w1 a;d1;d1;d1;d1;g6 3 0 1;", RAKED_0_3, "round = 0 3");
        OF.run("w1 a;d1;d1;d1;d1;g5 3 0 1;g5 0 0 1;", RAKED_0_3, "round = 0");
        OF.run("w1 a;d1;d1;d1;d1;g5 3 0 1;g6 0 0 1;", RAKED_0_3, "round = 3 0");
    }

    private static void whatIsReadInTime() {
        OF.sentence("ROUND: A DRIVE is read in time, if it has a LETTER that can be read");
        OF.run("w1 ab;d2;d2;", "round = none, rakes 1 0 = 0, round = 1, cat 1 0 = 1, round = 1, cat 1 1 = 2, round = none",
            "undo = 2, rains = 1, round = none, undo = 2, round = 1");
        OF.run("w1 ab;d8;d8;", "rakes 0 0 = 6, rakes 1 0 = 6, round = 0 1, treads 0 0 1 = 8, round = 1, rains = 2, round = 1",
            "cat 1 0 = 1, round = none");
        OF.sentence("ROUND: no GOER of it has an HOUR from THE HOUR (that one, too)");
        OF.run("w1 a;d2;g3 0 7 1;", "rakes 0 0 = 1, round = 0, hour = 0, round = 0, hour = 0, round = none, hour = 1",
            "round = none, hour = 0, round = 0");
        OF.run("w1 a;d1;g24 0 0 1;", "23 x hour = 0, rakes 0 0 = 0, round = none, hour = 1, rakes 0 0 = 0, round = none");
        OF.sentence("ROUND: .. up to that at which the reading ends (that one, too)");
        OF.run("w1 a;d1;g1 0 0 1;", RAKED_1, "round = none");
        OF.run("w1 a;d1;g2 0 0 1;", RAKED_1, "round = 0");
        OF.run("w1 a;d1;g1 0 7 1;", RAKED_1, "round = none");
        OF.run("w1 a;d1;g7 0 0 1;", RAKED_1, "5 x hour = 0, round = 0, hour = 0, round = none");
        OF.run("w1 a;d1;d1;g1 1 0 1;", RAKED_2, "round = 0");
        OF.run("w1 a;d1;d1;g9 0 0 1;g2 0 0 1;g8 0 0 1;", RAKED_2, "round = 0 1");
        OF.run("w1 a;d1;d1;g9 0 0 1;g1 0 0 1;g8 0 0 1;", RAKED_2, "round = 1");
    }

    private static void theBestOrder() {
        OF.sentence("ROUND: Of all orders of some DRIVES in which each is read in time that of most DRIVES");
        OF.run("w1 a;d1;d1;d1;d1;", RAKED_4, "round = 0 1 2 3");
        OF.run("w1 a;d1;d1;d1;d1;g2 2 0 1;", RAKED_4, "round = 2 0 1 3");
        OF.run("w1 a;d1;d1;d1;d1;g2 3 0 1;g4 2 0 1;", RAKED_4, "round = 3 2 0 1");
        OF.run("w1 a;d1;d1;d1;d1;g1 2 0 1;", RAKED_4, "round = 0 1 3");
        OF.run("w1 a;d1;d1;d1;d1;g1 0 0 1;g1 1 0 1;g1 2 0 1;g1 3 0 1;", RAKED_4, "round = none");
        OF.run("w1 a;d1;d1;d1;d1;g2 0 0 1;g2 1 0 1;g2 2 0 1;g2 3 0 1;", RAKED_4, "round = 0");
        OF.run("w1 a;d1;d1;d1;d1;g4 0 0 1;g4 1 0 1;g4 2 0 1;g4 3 0 1;", RAKED_4, "round = 0 1");
        OF.run("w1 a;d1;d1;d1;d1;g7 0 0 1;g5 1 0 1;g3 2 0 1;", RAKED_4, "round = 2 1 0 3");
        OF.run("w1 a;d1;d1;d1;d1;g8 0 0 1;g6 1 0 1;g4 2 0 1;g2 3 0 1;", RAKED_4, "round = 3 2 1 0");
        OF.run("w1 a;d1;d1;d1;d1;g7 0 0 1;g6 1 0 1;g4 2 0 1;g2 3 0 1;", RAKED_4, "round = 1 2 0");
    }

    private static void theFirstOfSeveral() {
        OF.sentence("ROUND: of several the first (the lowest first, then the second ..)");
        OF.run("w1 a;d1;d1;d1;", RAKED_3, "round = 0 1 2");
        OF.run("w1 a;d1;d1;d1;g8 0 0 1;g2 2 0 1;", RAKED_3, "round = 2 0 1");
        OF.run("w1 a;d1;d1;d1;g6 0 0 1;g2 2 0 1;", RAKED_3, "round = 2 0 1");
        OF.run("w1 a;d1;d1;d1;g4 0 0 1;g2 2 0 1;", RAKED_3, "round = 0 1");
        OF.run("w1 a;d1;d1;d1;d1;g7 3 0 1;", RAKED_4, "round = 0 1 3 2");
        OF.run("w1 a;d1;d1;d1;d1;g7 3 0 1;g8 2 0 1;", RAKED_4, "round = 0 2 3 1");
        OF.run("w1 a;d1;d1;d1;d1;g3 1 0 1;", RAKED_4, "round = 1 0 2 3");
        // two can be read: 0 and 1 as well as 1 and 0
        OF.run("w1 a;d1;d1;g9 0 0 1;g9 1 0 1;", RAKED_2, "round = 0 1");
    }

    private static void roundAtItsEnds() {
        OF.sentence("round: how many (k = -1), the k-th (NONE: not so many).");
        OF.run("w1 a;d1;d1;d1;", RAKED_2, "round -1 = 2, round 0 = 0, round 1 = 1, round 2 = NONE, round 3 = NONE");
        OF.run("w1 a;", "round -1 = 0, round 0 = NONE, round 3 = NONE");
        OF.run("w1 a;d1;d1;d1;d1;", RAKED_4, "round -1 = 4, round 3 = 3");
        OF.sentence("round: BAD (below -1, above 3).");
        OF.run("w1 a;d1;d1;d1;d1;", RAKED_4, "round -2 = BAD, round 4 = BAD, round 2147483647 = BAD, round -2147483648 = BAD",
            "round -9 = BAD");
        OF.bare("round -2 = BAD, round 4 = BAD, round -1 = 0, round 3 = NONE");
        OF.sentence("ROUND at THE HOUR 24");
        OF.run("w1 a;d1;d1;d1;d1;g24 1 7 1;g23 2 7 1;", "22 x hour = 0, 2 x hour = 1, " + RAKED_4, "round = 0 2 3, undo = 9",
            "round = 0 2, undo = 8, round = 0");
    }

    private static void odds() {
        OF.sentence("ODDS: each GOER of it whose HOUR is later than THE HOUR comes by x of 10, for itself");
        OF.run("w1 a;d1;d1;g2 0 0 1;g3 0 0 1;g3 1 0 1;", RAKED_2, "odds 0 5 = 1/4, odds 0 2 = 16/25, odds 1 5 = 1/2, hour = 0",
            "odds 0 5 = 1/4, hour = 1",
            "rakes 0 0 = 0, odds 0 5 = 1/2, odds 1 5 = 1/2, hour = 2, rakes 0 0 = 0, odds 0 5 = 1/1, odds 0 10 = 1/1");
        OF.run("w1 a;d1;g24 0 0 1;", "23 x hour = 0, rakes 0 0 = 0, odds 0 3 = 7/10, hour = 1, rakes 0 0 = 0, odds 0 3 = 1/1");
        OF.sentence("ODDS: that no LETTER that can be read NOW is TRODDEN by them");
        OF.run("w1 abcd;d6;g1 0 0 4;g2 0 1 4;g3 0 2 4;g4 0 4 1;g5 0 6 1;", "odds 0 5 = 1/1, rakes 0 0 = 2, odds 0 5 = 1/8",
            "cat 0 1 = 1, odds 0 5 = 1/4, treads 0 0 2 = 3, odds 0 5 = 1/1");
        OF.run("w1 abcd;d6;g1 0 1 4;g2 0 3 1;g2 0 0 4;", "rakes 0 0 = 2, odds 0 5 = 1/8, rains = 3, odds 0 5 = 1/2, undo = 1",
            "odds 0 5 = 1/8");
        OF.run("w1 a;w1 ab;d2;g1 0 1 1;g2 0 7 4;", "rakes 0 0 = 1, odds 0 10 = 1/1, rakes 0 1 = 0, odds 0 10 = 0/1");
        OF.run("w1 abcdef;d6;g1 0 2 3;", RAKED_1, "odds 0 1 = 9/10, cat 0 2 = 1, odds 0 1 = 9/10, cat 0 5 = 2, odds 0 1 = 1/1");
    }

    private static final String[][] BY_X = {{"1/1", "9/10", "4/5", "7/10", "3/5", "1/2", "2/5", "3/10", "1/5", "1/10", "0/1"},
        {"1/1", "81/100", "16/25", "49/100", "9/25", "1/4", "4/25", "9/100", "1/25", "1/100", "0/1"},
        {"1/1", "729/1000", "64/125", "343/1000", "27/125", "1/8", "8/125", "27/1000", "1/125", "1/1000", "0/1"},
        {"1/1", "6561/10000", "256/625", "2401/10000", "81/625", "1/16", "16/625", "81/10000", "1/625", "1/10000", "0/1"},
        {"1/1", "59049/100000", "1024/3125", "16807/100000", "243/3125", "1/32", "32/3125", "243/100000", "1/3125", "1/100000", "0/1"},
        {"1/1", "531441/1000000", "4096/15625", "117649/1000000", "729/15625", "1/64", "64/15625", "729/1000000", "1/15625", "1/1000000", "0/1"}};

    private static void oddsByAllNumbers() {
        OF.sentence("odds: upper, lower number, in least terms");
        for (int goers = 1; goers <= 6; goers++) {
            for (int x = 0; x <= 10; x++) {
                OF.run("w1 a;d1;" + "g9 0 0 1;".repeat(goers), RAKED_1, "odds 0 " + x + " = " + BY_X[goers - 1][x]);
            }
        }
    }

    private static void oddsAtTheirEnds() {
        OF.sentence("ODDS by x (0 .. 10): 1 by 1, 0 by 1");
        OF.run("w1 a;d1;g1 0 0 1;", "odds 0 0 = 1/1, odds 0 10 = 1/1, rakes 0 0 = 0, odds 0 0 = 1/1, odds 0 10 = 0/1",
            "cat 0 0 = 1, odds 0 10 = 1/1");
        OF.run("w1 a;d1;", RAKED_1, "odds 0 0 = 1/1, odds 0 5 = 1/1, odds 0 10 = 1/1");
        OF.sentence("odds: BAD.");
        OF.run("w1 a;d1;g1 0 0 1;", RAKED_1, "odds 0 11 0 = BAD, odds 0 -1 0 = BAD, odds 0 11 1 = BAD, odds 1 0 0 = BAD",
            "odds -1 0 0 = BAD, odds 4 0 0 = BAD, odds 0 0 2 = BAD",
            "odds 0 0 -1 = BAD, odds 1 11 2 = BAD, odds 0 2147483647 0 = BAD, odds 0 -2147483648 0 = BAD",
            "odds 2147483647 0 0 = BAD, odds 0 5 2147483647 = BAD");
    }

    private static void nothingIsChanged() {
        OF.sentence("(As things are NOW; nothing is changed.)");
        OF.run("w2 abc;w1 abd;d3;d4;g2 0 0 1;g3 1 0 2;", "rakes 0 0 = 0, rakes 1 1 = 1, cat 0 2 = 1, hour = 0, keep 0 = 1",
            "3 x likely 0 0 = 2/3",
            "3 x spoil 0 2 = 0/1, round = 1, round = 1, 3 x odds 0 5 = 1/2, 3 x odds 1 5 = 1/2, 2 x drive 0 3 = 2",
            "2 x drive 0 5 = 21, 2 x word 0 2 = 1",
            "board 0 = ab#, board 1 = abd., count 3 = 1, count 4 = 4, trace = 0, undo = 3, count 3 = 0, undo = 2",
            "board 0 = abc, back 0 = 1");
    }
}
