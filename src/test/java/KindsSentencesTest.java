/** The document's sentences on promises 20 to 24: rate, keep, back, count, trace. */
public final class KindsSentencesTest {
    private static final Runs OF = new Runs("KindsSentencesTest");

    public static void main(String[] args) {
        rates();
        ratesByHours();
        rateRefused();
        traces();
        keeping();
        goingBack();
        notKept();
        nothingElseIsKept();
        nothingCanBeUndone();
        counts();
        OF.end();
    }

    private static void rates() {
        OF.sentence("RATE: WORD how long it is");
        OF.run("w9 abcdef;w1 h;", "rate 0 0 = 6, rate 0 1 = 1");
        OF.sentence("RATE: LETTER up, and how often it is SAID");
        OF.run("w9 abcdef;w1 h;w9 a;w1 abcdef;", "rate 1 0 = 15, rate 1 1 = 2, rate 1 2 = 10, rate 1 3 = 7");
        OF.sentence("RATE: BILL up less how many VOWELS it has");
        OF.run("w9 abcdef;w1 h;w2 a;w3 aeaeae;w4 e;w5 eab;", "rate 2 0 = 4, rate 2 1 = 1, rate 2 2 = 0, rate 2 3 = 0",
            "rate 2 4 = 0, rate 2 5 = 1");
        OF.sentence("RATE: VOW twice what up gives, asked once");
        OF.run("w9 abcdef;w1 h;", "rate 3 0 = 30, trace = 1011, rate 3 1 = 4, trace = 2022");
        OF.sentence("RATE: WRIT up, and its number");
        OF.run("w1 h;w1 h;w1 h;w1 h;w1 a;w1 bcad;", "rate 4 0 = 1, rate 4 1 = 2, rate 4 2 = 3, rate 4 3 = 4, rate 4 4 = 4",
            "rate 4 5 = 8");
        OF.sentence("RATE of a WORD as if of a KIND: it hangs on no DRIVE");
        OF.run("w1 bed;d1;d3;", "treads 1 0 1 = 3, rains = 0, rate 0 0 = 3, rate 2 0 = 2");
    }

    private static void ratesByHours() {
        OF.sentence("RATE: WILL up, and THE HOUR");
        OF.run("w9 bed;d1;", "rate 5 0 = 3, hour = 0, rate 5 0 = 4, undo = 0, rate 5 0 = 3, keep 0 = 0, 24 x hour = 0",
            "rate 5 0 = 27, hour = STATE, rate 5 0 = 27",
            "rate 0 0 = 3, rate 1 0 = 12, rate 2 0 = 2, rate 3 0 = 24, rate 4 0 = 2, back 0 = 0, rate 5 0 = 3");
    }

    private static void rateRefused() {
        OF.sentence("rate: NO: BAD.");
        OF.run("w9 bed;w1 a;", "rate 6 0 = NO, rate -1 0 = NO, rate 0 2 = NO, rate 0 -1 = NO, rate 5 2 = NO, rate 6 2 = NO",
            "rate 0 6 = NO, rate 3 5 = NO",
            "rate 2147483647 0 = NO, rate -2147483648 0 = NO, rate 0 2147483647 = NO, rate 0 -2147483648 = NO, trace = 0",
            "rate 0 1 = 1, trace = 1");
        OF.bare("rate 0 0 = NO, rate 1 0 = NO, rate 2 0 = NO, rate 3 0 = NO, rate 4 0 = NO, rate 5 0 = NO, trace = 0");
    }

    private static void traces() {
        OF.sentence("(numbers in brackets are added to THE TRACE, 0 at first, as often as rate() asks that body: each once)");
        OF.run("w9 bed;", "trace = 0, rate 0 0 = 3, trace = 1, rate 1 0 = 12, trace = 12, rate 2 0 = 2, trace = 113",
            "rate 3 0 = 24, trace = 1124",
            "rate 4 0 = 2, trace = 11225, rate 5 0 = 3, trace = 111226, 10 x rate 0 0 = 3, trace = 111236, 2 x trace = 111236");
        OF.run("w9 bed;", "490 x rate 5 0 = 3, trace = 49000490");
        OF.sentence("THE TRACE: by rate() alone");
        OF.run("w9 bed;w1 a;d3;g1 0 0 1;", "word 0 2 = 3, letter 0 0 = 1, drive 0 2 = 0, rakes 0 0 = 0, cat 0 0 = 1",
            "likely 0 0 = 1/1, spoil 0 1 = 0/2, round = none, odds 0 5 = 1/2",
            "hour = 1, rains = 2, undo = 3, keep 0 = 1, count 0 = 2, trace = 0");
        OF.sentence("THE TRACE goes on, as behind undo(), back().");
        OF.run("w9 bed;d3;", "rate 1 0 = 12, keep 0 = 0, trace = 11, rate 0 0 = 3, cat 0 0 = 1, rate 0 0 = 3, undo = 0",
            "trace = 13, back 0 = 0, trace = 13, rate 2 0 = 2, trace = 114");
    }

    private static void keeping() {
        OF.sentence("keep: An IMAGE is kept: THE HOUR. BAD.");
        OF.run("d1;", "keep 0 = 0, keep 1 = 0, keep 2 = BAD, keep -1 = BAD, keep 32 = BAD, keep 33 = BAD",
            "keep 2147483647 = BAD, keep -2147483648 = BAD",
            "24 x hour = 0, keep 1 = 24, keep 0 = 24, keep 0 = 24, undo = 9, keep 1 = 23");
        OF.bare("keep 0 = 0, hour = 0, keep 1 = 1, back 0 = 0, back 1 = 1, count 3 = 1");
        OF.sentence("IMAGES keep NOW: kept again, the later one");
        OF.run("w1 ab;d2;", "keep 0 = 0, rakes 0 0 = 0, keep 0 = 0, cat 0 0 = 1, back 0 = 0, board 0 = ab, hour = 0",
            "rains = 1, keep 0 = 1, rakes 0 0 = 0, back 0 = 1, board 0 = a.");
    }

    private static void goingBack() {
        OF.sentence("back: All of that becomes as an IMAGE has it (what is in all cells, what is TRODDEN, THE HOUR): THE HOUR.");
        OF.run("w3 bad;w1 e;d4;d1;d3;d8;g2 3 0 2;g3 0 0 1;", "rakes 0 0 = 1, rakes 1 1 = 0, rakes 2 0 = 0, rakes 3 0 = 5",
            "hour = 0, hour = 1, keep 1 = 2",
            "rakes 0 1 = 3, rakes 1 1 = 0, rakes 2 1 = 2, rakes 3 1 = 7, treads 0 0 1 = 4, treads 1 0 1 = 1, treads 2 0 1 = 3",
            "treads 3 0 1 = 8, hour = 1",
            "back 1 = 2, board 0 = bad., board 1 = e, board 2 = bad, board 3 = #a#.#.#., count 3 = 2, hour = 1",
            "board 0 = ####, back 1 = 2, board 0 = bad.");
        OF.run("w1 bad;d3;", "rakes 0 0 = 0, cat 0 0 = 1, keep 0 = 0, rains = 2, back 0 = 0, board 0 = #ad, rains = 2");
        OF.sentence("back: IMAGES 0, 1");
        OF.run("w1 ab;d2;", "keep 0 = 0, rakes 0 0 = 0, hour = 0, keep 1 = 1, back 0 = 0, board 0 = .., back 1 = 1",
            "board 0 = ab, back 1 = 1, back 0 = 0, count 3 = 0, board 0 = ..");
        OF.sentence("back: what is done behind keep(), undo() does not change an IMAGE");
        OF.run("w1 ab;d2;", "rakes 0 0 = 0, keep 0 = 0, cat 0 1 = 1, undo = 1, undo = 0, rains = 0, back 0 = 0, board 0 = ab",
            "cat 0 0 = 1, back 0 = 0, board 0 = ab");
    }

    private static void notKept() {
        OF.sentence("back: BAD; STATE: none was kept.");
        OF.bare("back 0 = STATE, back 1 = STATE, back 2 = BAD, back -1 = BAD, back 32 = BAD, back 2147483647 = BAD",
            "back -2147483648 = BAD");
        OF.run("d2;", "keep 1 = 0, back 0 = STATE, cat 0 0 = 1, back 2 = BAD, back 0 = STATE, count 4 = 1, drive 0 1 = 1",
            "back 1 = 0, back 0 = STATE, drive 0 1 = 0");
        OF.run("d2;", "keep 0 = 0, back 1 = STATE, cat 0 0 = 1, back 1 = STATE, undo = 0, keep 1 = 0, back 1 = 0");
        OF.sentence("IMAGES are gone (read anew), not by a FAULT");
        OF.run("d2;", "cat 0 1 = 1, keep 0 = 0, keep 1 = 0, tell x = -10, back 0 = 0, back 1 = 0, drive 0 1 = 2, clear = 1",
            "suburb = 0, back 0 = STATE, back 1 = STATE, keep 1 = 0, back 0 = STATE, back 1 = 0");
    }

    private static void nothingElseIsKept() {
        OF.sentence("IMAGES keep nothing else");
        OF.run("w1 ab;w2 a;d2;d3;g1 0 0 1;", "typed w, keep 0 = 0, typed 1, rate 0 0 = 2, keep 1 = 0, rate 0 0 = 2",
            "back 0 = 0, trace = 2, count 5 = 2, count 0 = 2, count 1 = 2, count 2 = 1",
            "word 0 0 = 2, word 1 1 = 2, drive 1 0 = 3, goer 0 0 = 1, back 1 = 0, trace = 2, count 5 = 2");
    }

    private static void nothingCanBeUndone() {
        OF.sentence("(nothing can be UNDONE behind back())");
        OF.run("w1 ab;d2;", "rakes 0 0 = 0, cat 0 0 = 1, keep 0 = 0, count 4 = 2, hour = 0, count 4 = 3, back 0 = 0",
            "count 4 = 0, undo = STATE, board 0 = #b",
            "cat 0 1 = 2, undo = 0, board 0 = #b, undo = STATE");
        OF.run("d2;", "keep 0 = 0, 12 x rains = 0, back 0 = 0, count 4 = 0, undo = STATE, 11 x rains = 0, count 4 = 10",
            "undo = 9");
        OF.sentence("what could be UNDONE can be behind keep(), and behind a refused back()");
        OF.run("d2;", "cat 0 0 = 1, keep 0 = 0, back 1 = STATE, back 2 = BAD, keep 2 = BAD, undo = 0, drive 0 1 = 0");
    }

    private static void counts() {
        OF.sentence("count: 0 WORDS, 1 DRIVES, 2 GOERS, 3 THE HOUR, 4 how many may be UNDONE, 5 letters of THE TEXT.");
        OF.run("w1 a;w1 b;w1 c;w1 d;w1 e;d1;d1;d1;g1 0 0 1;g1 0 0 1;g1 0 0 1;g1 0 0 1;", "count 0 = 5, count 1 = 3",
            "count 2 = 4, count 3 = 0, count 4 = 0, count 5 = 0",
            "hour = 4, 5 x rains = 0, undo = 5, typed w1 a;d8;, count 0 = 5, count 1 = 3, count 2 = 4, count 3 = 1",
            "count 4 = 5, count 5 = 8");
        OF.sentence("count: BAD.");
        OF.run("w1 a;d1;g1 0 0 1;", "count 6 = BAD, count -1 = BAD, count 7 = BAD, count 32 = BAD, count 2147483647 = BAD",
            "count -2147483648 = BAD");
        OF.bare("count 6 = BAD, count -1 = BAD");
    }
}
