/** The document's sentences on promises 10 to 15: rakes, treads, cat, rains, hour, undo. */
public final class DoneSentencesTest {
    private static final Runs OF = new Runs("DoneSentencesTest");
    private static final String LETTERS = "abcdefgh";

    public static void main(String[] args) {
        bareAtFirst();
        raking();
        rakingRefused();
        treading();
        treadsOnAllDrives();
        cats();
        rain();
        hours();
        goersCome();
        eachIsUndone();
        nothingBecomesAnother();
        tenAreKnown();
        noneIsLeft();
        refusedIsNotUndone();
        OF.end();
    }

    private static void bareAtFirst() {
        OF.sentence("All DRIVES are bare at first (each cell is BLANK), nothing is TRODDEN, THE HOUR is 0.");
        OF.run("w1 a;d1;d8;d3;d6;g1 0 0 1;", "board 0 = ., board 1 = ........, board 2 = ..., board 3 = ......",
            "drive 0 1 = 0, drive 1 1 = 0, drive 2 1 = 0, drive 3 1 = 0, count 3 = 0, count 4 = 0, undo = STATE");
    }

    private static void raking() {
        OF.sentence("RAKED: a WORD on a DRIVE that is as LONG as it, or longer: how many cells are BLANK.");
        for (int word = 1; word <= 6; word++) {
            String row = LETTERS.substring(2, 2 + word);
            for (int cells = 1; cells <= 8; cells++) {
                if (word <= cells) {
                    OF.run("w1 " + row + ";d" + cells + ";", "rakes 0 0 = " + (cells - word), "count 4 = 1",
                        "board 0 = " + row + ".".repeat(cells - word));
                }
            }
        }
        OF.sentence("RAKED: its LETTERS are in the cells from 0 on, the others are BLANK");
        OF.run("w1 abcd;w1 h;d6;d6;", "rakes 0 0 = 2, board 0 = abcd.., board 1 = ......, rakes 0 1 = 5, board 0 = h.....",
            "rakes 0 0 = 2, board 0 = abcd..");
        OF.sentence("RAKED: none is TRODDEN");
        OF.run("w1 ab;d8;d8;", "treads 0 0 1 = 8, treads 1 0 2 = 4, rakes 0 0 = 6, board 0 = ab......, drive 0 1 = 0",
            "drive 1 1 = 85");
        OF.run("w1 ab;d2;", "rakes 0 0 = 0, cat 0 0 = 1, rakes 0 0 = 0, cat 0 0 = 1, board 0 = #b");
    }

    private static void rakingRefused() {
        OF.sentence("rakes: STATE: the WORD is longer.");
        for (int word = 2; word <= 6; word++) {
            for (int cells = 1; cells < word; cells++) {
                OF.run("w1 " + LETTERS.substring(0, word) + ";d" + cells + ";", "cat 0 0 = 1, rakes 0 0 = STATE, count 4 = 1",
                    "board 0 = #" + ".".repeat(cells - 1));
            }
        }
        OF.sentence("rakes: BAD, ahead of STATE");
        OF.run("w1 abcdef;d1;", "rakes 1 0 = BAD, rakes -1 0 = BAD, rakes 0 1 = BAD, rakes 0 -1 = BAD, rakes 4 0 = BAD",
            "rakes 0 6 = BAD, rakes 1 1 = BAD",
            "rakes 2147483647 0 = BAD, rakes -2147483648 0 = BAD, rakes 0 2147483647 = BAD, rakes 0 -2147483648 = BAD",
            "rakes 0 0 = STATE, count 4 = 0");
        OF.run("d1;", "rakes 0 0 = BAD");
        OF.run("w1 a;", "rakes 0 0 = BAD");
    }

    private static void treading() {
        OF.sentence("TRODDEN by FIRST, STRIDE: cells FIRST, FIRST and STRIDE, and so on, as far as the DRIVE is LONG, are TRODDEN");
        OF.run("w1 abcdef;d8;d2;", "rakes 0 0 = 2, treads 0 1 3 = 3, board 0 = a#cd#f.#, board 1 = ..");
        OF.run("w1 abcdef;d6;", "rakes 0 0 = 0, treads 0 2 4 = 1, board 0 = ab#def, treads 0 1 4 = 2, board 0 = a##de#");
        OF.sentence("treads: how many cells are, that were not.");
        OF.run("d8;", "treads 0 0 3 = 3, treads 0 0 3 = 0, treads 0 0 1 = 5, treads 0 0 1 = 0, count 4 = 4");
        OF.run("d8;", "cat 0 4 = 1, treads 0 0 2 = 3, treads 0 0 4 = 0, treads 0 3 4 = 2");
        OF.sentence("FIRST beyond the DRIVE");
        OF.run("d2;d7;", "treads 0 2 1 = 0, treads 0 7 4 = 0, drive 0 1 = 0, treads 1 7 1 = 0, treads 1 6 1 = 1",
            "treads 0 1 4 = 1, count 4 = 5");
        OF.sentence("treads: BAD.");
        OF.run("d8;", "treads 0 -1 1 = BAD, treads 0 8 1 = BAD, treads 0 0 0 = BAD, treads 0 0 5 = BAD, treads 0 0 -1 = BAD",
            "treads 1 0 1 = BAD, treads -1 0 1 = BAD",
            "treads 4 0 1 = BAD, treads 0 2147483647 1 = BAD, treads 0 -2147483648 1 = BAD, treads 0 0 2147483647 = BAD",
            "treads 0 0 -2147483648 = BAD",
            "treads 2147483647 0 1 = BAD, treads 0 7 5 = BAD, treads 0 7 0 = BAD, drive 0 1 = 0, count 4 = 0, undo = STATE");
    }

    private static void treadsOnAllDrives() {
        OF.sentence("treads by every FIRST (0 .. 7), STRIDE (1 .. 4) on every DRIVE");
        for (int cells = 1; cells <= 8; cells++) {
            for (int two = 1; two <= 74; two++) {
                int first = two / 10;
                int stride = two % 10;
                if (stride >= 1 && stride <= 4) {
                    StringBuilder board = new StringBuilder(".".repeat(cells));
                    int trodden = 0;
                    for (int x = first; x < cells; x += stride) {
                        board.setCharAt(x, '#');
                        trodden++;
                    }
                    OF.run("d" + cells + ";", "treads 0 " + first + " " + stride + " = " + trodden, "board 0 = " + board,
            "undo = 0, drive 0 1 = 0");
                    OF.run("d" + cells + ";g1 0 " + first + " " + stride + ";", "hour = 1", "board 0 = " + board, "undo = 0",
            "drive 0 1 = 0");
                }
            }
        }
    }

    private static void cats() {
        OF.sentence("A CAT: one cell is TRODDEN: how many cells of the DRIVE are TRODDEN then.");
        OF.run("w1 ab;d3;d8;", "rakes 0 0 = 1, cat 0 2 = 1, board 0 = ab#, cat 1 0 = 1, cat 0 0 = 2, board 0 = #b#",
            "cat 0 1 = 3, board 0 = ###, board 1 = #.......");
        OF.run("d8;", "treads 0 1 2 = 4, cat 0 0 = 5, cat 0 2 = 6, cat 0 4 = 7, cat 0 6 = 8, count 4 = 5");
        OF.sentence("cat: STATE: that one is (TRODDEN already).");
        OF.run("d8;d1;g1 0 3 4;", "cat 0 0 = 1, cat 0 0 = STATE, treads 0 5 2 = 2, cat 0 7 = STATE, cat 0 5 = STATE, hour = 1",
            "cat 0 3 = STATE",
            "cat 0 7 = STATE, count 4 = 3, cat 0 1 = 5, cat 1 0 = 1, cat 1 0 = STATE, drive 0 1 = 171");
        OF.run("w1 ab;d2;", "cat 0 1 = 1, rakes 0 0 = 0, cat 0 1 = 1, cat 0 1 = STATE, undo = 2, cat 0 1 = 1");
        OF.sentence("cat: BAD, ahead of STATE.");
        OF.run("d8;d3;", "treads 0 0 1 = 8, treads 1 0 1 = 3, cat 0 8 = BAD, cat 0 -1 = BAD, cat 1 3 = BAD, cat 1 7 = BAD",
            "cat 2 0 = BAD, cat -1 0 = BAD",
            "cat 0 32 = BAD, cat 0 2147483647 = BAD, cat 0 -2147483648 = BAD, cat 2147483647 0 = BAD, cat 0 7 = STATE",
            "count 4 = 2");
    }

    private static void rain() {
        OF.sentence("RAIN: in all cells of all DRIVES LETTERS but VOWELS become BLANK: how many");
        OF.run("w1 abcdef;w1 ghgh;w1 ae;d6;d8;d3;d1;", "rakes 0 0 = 0, rakes 1 1 = 4, rakes 2 2 = 1, rains = 8",
            "board 0 = a...e., board 1 = ........, board 2 = ae., board 3 = ., rains = 0, board 0 = a...e.");
        OF.sentence("RAIN: (TRODDEN ones, too)");
        OF.run("w1 bad;w1 hcd;d3;d4;", "rakes 0 0 = 0, rakes 1 1 = 1, treads 0 0 1 = 3, cat 1 0 = 1, rains = 5, rains = 0",
            "board 0 = ###, board 1 = #...");
        OF.run("w1 bad;d3;", "rakes 0 0 = 0, keep 0 = 0, cat 0 0 = 1, rains = 2, undo = 2, undo = 1, board 0 = bad, rains = 2",
            "board 0 = .a., back 0 = 0, board 0 = bad");
        OF.sentence("RAIN on what has no LETTERS");
        OF.run("w1 aeaeae;d6;d8;", "rains = 0, count 4 = 1, rakes 0 0 = 0, rains = 0, board 0 = aeaeae, count 4 = 3");
        OF.bare("rains = 0, count 4 = 1");
    }

    private static void hours() {
        OF.sentence("An HOUR goes by (24 at most): THE HOUR is 1 more. STATE: it is 24.");
        OF.run("d1;g24 0 0 1;", "23 x hour = 0, count 3 = 23, drive 0 1 = 0, hour = 1, count 3 = 24, drive 0 1 = 1",
            "3 x hour = STATE, count 3 = 24",
            "count 4 = 10, undo = 9, count 3 = 23, drive 0 1 = 0, hour = 1, count 3 = 24, hour = STATE");
        OF.run("d1;", "24 x hour = 0, hour = STATE, keep 0 = 24, cat 0 0 = 1, hour = STATE, back 0 = 24, hour = STATE",
            "undo = STATE, count 3 = 24");
    }

    private static void goersCome() {
        OF.sentence("GOERS of that HOUR, by numbers, tread their DRIVES: how many GOERS come.");
        OF.run("w1 abcdef;d8;d3;g1 0 0 4;g1 1 2 1;g2 1 0 1;g1 0 1 4;g3 0 2 1;g24 0 0 1;", "rakes 0 0 = 2, hour = 3",
            "board 0 = ##cd##..",
            "board 1 = ..#, hour = 1, board 1 = ###, hour = 1, board 0 = ########, hour = 0");
        OF.run("d1;g1 0 0 1;g1 0 0 1;g1 0 0 1;g1 0 0 1;g1 0 0 1;g1 0 0 1;", "hour = 6, drive 0 1 = 1, hour = 0, undo = 1",
            "undo = 0, drive 0 1 = 0, hour = 6");
        OF.sentence("GOERS come that tread nothing, too");
        OF.run("d2;g1 0 7 1;g1 0 2 4;g2 0 0 1;g3 0 0 1;", "hour = 2, drive 0 1 = 0, hour = 1, drive 0 1 = 3, hour = 1",
            "drive 0 1 = 3");
        OF.sentence("what is RAKED ahead of a GOER is TRODDEN, behind it is not");
        OF.run("w1 ab;d2;g1 0 0 1;", "rakes 0 0 = 0, hour = 1, board 0 = ##, rakes 0 0 = 0, hour = 0, board 0 = ab");
    }

    private static void eachIsUndone() {
        OF.sentence("UNDONE: the latest rakes(), treads(), cat(), rains(), hour(): how many more may be.");
        OF.run("w1 bad;w1 he;d4;g1 0 2 1;", "rakes 0 0 = 1, treads 0 0 3 = 2, board 0 = #ad#, undo = 1, board 0 = bad.",
            "undo = 0, board 0 = ....");
        OF.run("w1 bad;w1 he;d4;", "rakes 0 0 = 1, cat 0 1 = 1, rakes 0 1 = 2, board 0 = he.., undo = 2, board 0 = b#d.",
            "undo = 1, board 0 = bad.");
        OF.run("w1 bad;d4;", "rakes 0 0 = 1, rains = 2, board 0 = .a.., undo = 1, board 0 = bad.");
        OF.run("w1 bad;d4;d2;g1 0 2 1;g1 1 0 1;", "rakes 0 0 = 1, hour = 2, count 3 = 1, board 0 = ba##, board 1 = ##",
            "undo = 1, count 3 = 0, board 0 = bad., board 1 = ..");
        OF.run("w1 bad;d4;", "cat 0 0 = 1, rains = 0, hour = 0, undo = 2, count 3 = 0, undo = 1, undo = 0, drive 0 1 = 0",
            "rakes 0 0 = 1, undo = 0, board 0 = ....");
        OF.sentence("UNDONE: THE TRACE goes on, THE TEXT, IMAGES stay, as behind undo()");
        OF.run("w1 bad;d4;", "rakes 0 0 = 1, rate 0 0 = 3, typed w, keep 0 = 0, cat 0 0 = 1, keep 1 = 0, undo = 1, undo = 0",
            "trace = 1, count 5 = 1",
            "back 0 = 0, board 0 = bad., back 1 = 0, board 0 = #ad.");
    }

    private static void nothingBecomesAnother() {
        OF.sentence("UNDONE: (such by which nothing becomes another, too ..)");
        OF.run("w1 ab;d2;", "rakes 0 0 = 0, rakes 0 0 = 0, count 4 = 2, treads 0 7 1 = 0, count 4 = 3, cat 0 0 = 1",
            "treads 0 0 2 = 0, count 4 = 5, rains = 1, rains = 0, count 4 = 7",
            "undo = 6, board 0 = #., undo = 5, board 0 = #b, undo = 4, board 0 = #b, undo = 3, board 0 = ab, undo = 2",
            "undo = 1, board 0 = ab, undo = 0, board 0 = ..");
        OF.bare("rains = 0, hour = 0, count 4 = 2, undo = 1, count 3 = 0, undo = 0, undo = STATE");
    }

    private static void tenAreKnown() {
        OF.sentence("UNDONE: (.. 10 are known, older ones are lost)");
        OF.run("d8;d8;", "10 x rains = 0, count 4 = 10, rains = 0, count 4 = 10");
        StringBuilder cats = new StringBuilder("count 4 = 0");
        for (int n = 1; n <= 16; n++) {
            cats.append(", cat ").append((n - 1) / 8).append(' ').append((n - 1) % 8).append(" = ").append((n - 1) % 8 + 1);
            cats.append(", count 4 = ").append(Math.min(n, 10));
        }
        OF.run("d8;d8;", cats.toString(), "undo = 9, drive 1 1 = 127, undo = 8, drive 1 1 = 63, undo = 7, undo = 6, undo = 5",
            "undo = 4, undo = 3, drive 1 1 = 1",
            "undo = 2, drive 1 1 = 0, drive 0 1 = 255, undo = 1, drive 0 1 = 127, undo = 0, drive 0 1 = 63, undo = STATE",
            "drive 0 1 = 63, undo = STATE");
        OF.sentence("UNDONE: done anew behind what is undone");
        OF.run("d8;", "cat 0 0 = 1, cat 0 1 = 2, undo = 1, cat 0 2 = 2, drive 0 1 = 5, undo = 1, drive 0 1 = 1, undo = 0",
            "drive 0 1 = 0, undo = STATE");
        StringBuilder hours = new StringBuilder("9 x hour = 0, undo = 8, undo = 7, undo = 6, undo = 5, undo = 4, count 3 = 4, 8 x hour = 0, count 4 = 10, count 3 = 12");
        for (int left = 9; left >= 0; left--) {
            hours.append(", undo = ").append(left).append(", count 3 = ").append(left + 2);
        }
        OF.run("d8;", hours.toString(), "undo = STATE, count 3 = 2, 22 x hour = 0, hour = STATE, count 4 = 10");
    }

    private static void noneIsLeft() {
        OF.sentence("undo: STATE: none.");
        OF.bare("undo = STATE, count 4 = 0, hour = 0, undo = 0, 2 x undo = STATE, count 3 = 0, count 4 = 0");
        OF.run("d1;", "undo = STATE, cat 0 0 = 1, keep 0 = 0, back 0 = 0, undo = STATE, drive 0 1 = 1");
    }

    private static void refusedIsNotUndone() {
        OF.sentence("UNDONE: .. that was not refused");
        OF.run("w1 abc;d2;d3;", "rakes 1 0 = 0, rakes 0 0 = STATE, rakes 2 0 = BAD, treads 0 8 1 = BAD, cat 1 3 = BAD",
            "cat 1 1 = 1, cat 1 1 = STATE, count 4 = 2",
            "undo = 1, board 1 = abc, undo = 0, board 1 = ..., undo = STATE");
        OF.bare("24 x hour = 0, hour = STATE, undo = 9, count 3 = 23");
        OF.sentence("UNDONE: what only asks, keep() and the text are none of these");
        OF.run("w1 abc;d3;", "rakes 0 0 = 0, cat 0 0 = 1, word 0 2 = NONE, drive 0 3 = NONE, likely 0 0 = 1/1",
            "spoil 0 2 = 0/1, odds 0 5 = 1/1, round = 0",
            "rate 5 0 = 3, keep 0 = 0, typed d0;, suburb = -11, clear = 3, count 4 = 2, undo = 1, board 0 = abc");
    }
}
