/** The document's sentences on the text, on how many there may be of what it tells, and on promises 1 to 4. */
public final class TextSentencesTest {
    private static final Runs OF = new Runs("TextSentencesTest");
    private static final String[] ODD_NUMBERS = {"00", "01", "08", "000", "007", "010", "099", "128", "256", "257",
        "65537", "2147483648", "4294967297", "18446744073709551617", "99999999999999999999999999"};
    private static final String SIX_WORDS = "w1 a;w2 b;w3 c;w4 d;w5 e;w6 f;";
    private static final String FOUR_DRIVES = "d1;d2;d3;d4;";
    private static final String SIX_GOERS = "g1 0 0 1;g2 1 1 2;g3 2 2 3;g4 3 3 4;g5 0 4 1;g6 1 5 2;";

    public static void main(String[] args) {
        aNewObject();
        letters();
        howManyThereMayBe();
        wordsAndSaid();
        drives();
        goers();
        typing();
        clearing();
        blanks();
        itemsAreEnded();
        wordsBeginItems();
        faultsAtEveryPlace();
        signsAtEveryPlace();
        oddNumbers();
        theFirstFault();
        textsThatEndTooEarly();
        theTextStays();
        readAnew();
        OF.end();
    }

    private static void aNewObject() {
        OF.sentence("GravelWords(): As told; no WORDS, no DRIVES.");
        OF.bare("count 0 = 0, count 1 = 0, count 2 = 0, count 3 = 0, count 4 = 0, count 5 = 0, trace = 0");
        OF.bare("word 0 0 = BAD, letter 0 0 = BAD, drive 0 0 = BAD, cell 0 0 = BAD, goer 0 0 = BAD");
        OF.bare("rakes 0 0 = BAD, treads 0 0 1 = BAD, cat 0 0 = BAD, likely 0 0 0 = BAD, spoil 0 1 0 = BAD, odds 0 0 0 = BAD");
        OF.bare("rate 0 0 = NO, round = none, trace = 0");
        OF.bare("undo = STATE, back 0 = STATE, back 1 = STATE, clear = 0");
        OF.bare("rains = 0, count 4 = 1, undo = 0, undo = STATE");
        OF.bare("24 x hour = 0, hour = STATE, count 3 = 24, count 4 = 10, keep 1 = 24, back 1 = 24, undo = STATE");
    }

    private static void letters() {
        OF.sentence("LETTERS are a to h (0 .. 7)");
        OF.run("w1 abcd;w1 efgh;", "letter 0 0 = 0, letter 0 1 = 1, letter 0 2 = 2, letter 0 3 = 3",
            "letter 1 0 = 4, letter 1 1 = 5, letter 1 2 = 6, letter 1 3 = 7");
        for (char other = 'i'; other <= 'z'; other++) {
            OF.fault("w1 " + other + ";", 3);
        }
        OF.sentence("VOWELS a, e");
        OF.run("w1 abcd;w1 efgh;d4;d4;", "rakes 0 0 = 0, rakes 1 1 = 0, rains = 6, board 0 = a..., board 1 = e...");
        OF.run("w1 abcd;w1 efgh;w1 aea;w1 b;", "rate 2 0 = 3, rate 2 1 = 3, rate 2 2 = 0, rate 2 3 = 1");
    }

    private static void howManyThereMayBe() {
        OF.sentence("WORDS 0 .. (6 at most)");
        OF.run(SIX_WORDS, "count 0 = 6, word 0 1 = 1, word 5 1 = 6, word 6 1 = BAD");
        OF.sentence("a seventh w");
        OF.fault(SIX_WORDS + "w1 a;", 30);
        OF.fault(SIX_WORDS + "  w", 32);
        OF.fault(SIX_WORDS + "d1;w;", 33);
        OF.sentence("DRIVES 0 .. (4 at most)");
        OF.run(FOUR_DRIVES, "count 1 = 4, drive 0 0 = 1, drive 3 0 = 4, drive 4 0 = BAD");
        OF.sentence("a fifth d");
        OF.fault(FOUR_DRIVES + "d1;", 12);
        OF.fault(FOUR_DRIVES + "  d", 14);
        OF.fault(FOUR_DRIVES + "w1 a;d9;", 17);
        OF.sentence("GOERS 0 .. (6 at most)");
        OF.run(FOUR_DRIVES + SIX_GOERS, "count 2 = 6, goer 0 0 = 1, goer 5 0 = 6, goer 6 0 = BAD");
        OF.sentence("a seventh g");
        OF.fault(FOUR_DRIVES + SIX_GOERS + "g1 0 0 1;", 66);
        OF.fault(FOUR_DRIVES + SIX_GOERS + " g", 67);
        OF.fault(FOUR_DRIVES + SIX_GOERS + "w1 a;g0;", 71);
        OF.run(SIX_WORDS + FOUR_DRIVES + SIX_GOERS, "count 0 = 6, count 1 = 4, count 2 = 6");
        OF.fault(SIX_WORDS + FOUR_DRIVES + SIX_GOERS + "w", 96);
        OF.fault(SIX_WORDS + FOUR_DRIVES + SIX_GOERS + "d", 96);
        OF.fault(SIX_WORDS + FOUR_DRIVES + SIX_GOERS + "g", 96);
    }

    private static void wordsAndSaid() {
        OF.sentence("1 to 6 LETTERS");
        OF.run("w1 h;w1 abcdef;w1 hgfedc;", "word 0 0 = 1, word 1 0 = 6, word 2 0 = 6, letter 2 5 = 2, letter 2 6 = BAD");
        OF.fault("w1;", 2);
        OF.fault("w1 ;", 3);
        OF.fault("w1 abcdefg;", 3);
        OF.fault("w1 abcdefgh", 3);
        OF.sentence("SAID (1 .. 9 times)");
        for (int said = 1; said <= 9; said++) {
            OF.run("w" + said + "a;", "word 0 1 = " + said);
        }
        OF.fault("w0 a;", 1);
        OF.fault("w10 a;", 1);
        OF.fault("w a;", 2);
        OF.sentence("a row of more than 6, or of others than a to h");
        OF.fault("w1 aaaaaaa;", 3);
        OF.fault("w1   aaaaaaaaaaaaaaaaaaaaaaaaaaaaaaaaaa;", 5);
        OF.fault("w1 i;", 3);
        OF.fault("w1 iaaaaa;", 3);
        OF.fault("w1 aaiaaa;", 3);
        OF.fault("w1 aaaaai;", 3);
        OF.fault("w1 aaaaaai;", 3);
        OF.fault("w1 az", 3);
        OF.sentence("the row is one TOKEN");
        OF.fault("w1 ab cd;", 6);
        OF.fault("w1 a b;", 5);
    }

    private static void drives() {
        OF.sentence("LONG (1 .. 8 cells, 0 .. from the gate)");
        for (int cells = 1; cells <= 8; cells++) {
            OF.run("d" + cells + ";", "drive 0 0 = " + cells, "board 0 = " + ".".repeat(cells), "cell 0 -1 = BAD");
        }
        OF.fault("d0;", 1);
        OF.fault("d9;", 1);
        OF.fault("d10;", 1);
        OF.fault("d;", 1);
    }

    private static void goers() {
        OF.sentence("HOUR (1 .. 24)");
        for (int hour = 1; hour <= 24; hour++) {
            OF.run("d1;g" + hour + " 0 0 1;", "goer 0 0 = " + hour, hour - 1 + " x hour = 0, hour = 1, drive 0 1 = 1");
        }
        OF.fault("d1;g0 0 0 1;", 4);
        OF.fault("d1;g25 0 0 1;", 4);
        OF.sentence("a DRIVE that there is not");
        for (int drives = 1; drives <= 4; drives++) {
            String told = "d1;".repeat(drives);
            OF.run(told + "g1 " + (drives - 1) + " 0 1;", "goer 0 1 = " + (drives - 1));
            OF.fault(told + "g1 " + drives + " 0 1;", 3 * drives + 3);
        }
        OF.fault("g1 0 0 1;", 3);
        OF.sentence("a GOER of a DRIVE told ahead");
        OF.fault("g1 0 0 1;d1;", 3);
        OF.fault("d1;g1 1 0 1;d1;", 6);
        OF.run("d1;g1 0 0 1;d1;g2 1 0 1;", "goer 0 1 = 0, goer 1 1 = 1");
        OF.sentence("FIRST cell (0 .. 7)");
        for (int first = 0; first <= 7; first++) {
            OF.run("d1;g1 0 " + first + " 1;", "goer 0 2 = " + first);
        }
        OF.fault("d1;g1 0 8 1;", 8);
        OF.fault("d8;g1 0 8 1;", 8);
        OF.sentence("STRIDE (1 .. 4)");
        for (int stride = 1; stride <= 4; stride++) {
            OF.run("d1;g1 0 0 " + stride + ";", "goer 0 3 = " + stride);
        }
        OF.fault("d1;g1 0 0 0;", 10);
        OF.fault("d1;g1 0 0 5;", 10);
    }

    private static void typing() {
        OF.sentence("type: A letter (0 .. 255) comes to THE TEXT: how many it has. BAD");
        OF.bare("type 0 = 1, type 255 = 2, type -1 = BAD, type 256 = BAD, type 288 = BAD, count 5 = 2, type 32 = 3");
        OF.sentence("a text (150 letters at most); FULL");
        String longest = " ".repeat(18) + "w9 abcdef;".repeat(6) + "d8;".repeat(4) + "g24 3 7 4;".repeat(6);
        OF.bare("typed " + longest, "count 5 = 150, 2 x type 59 = FULL, count 5 = 150, suburb = 16, count 5 = 0, type 59 = 1");
        OF.bare("typed " + longest, "clear = 150, type 32 = 1");
        OF.fault(longest.substring(1) + "?", 149);
        OF.fault(longest.substring(1, 149) + ";;", 149);
        OF.fault("w1 a;" + " ".repeat(144) + "d", 150);
        OF.sentence("Refused, and nothing changes, the first of these: BAD .. FULL");
        OF.bare("150 x rains = 0", "typed " + longest, "type 256 = BAD, type -1 = BAD, type 255 = FULL, suburb = 16");
    }

    private static void clearing() {
        OF.sentence("clear: THE TEXT is empty: how many letters it had.");
        OF.bare("clear = 0, typed w1 a;, clear = 5, count 5 = 0, clear = 0, suburb = 0, count 0 = 0");
        OF.run("w1 a;d3;", "typed w1, clear = 2, count 0 = 1, count 1 = 1, count 4 = 0, tell d2; = 1, drive 0 0 = 2");
        OF.run("d3;", "cat 0 1 = 1, keep 0 = 0, typed d, clear = 1, drive 0 1 = 2, count 4 = 1, back 0 = 0");
    }

    private static void blanks() {
        OF.sentence("blanks (32), any number, ahead of, between, behind TOKENS");
        OF.whole("w1a;d1;g1 0 0 1;");
        OF.whole("  w  1  a  ;  d  1  ;  g  1  0  0  1  ;  ");
        OF.whole("w 1a;d1 ;g 1 0 0 1;");
        OF.whole(" ".repeat(100) + "w1 a;");
        OF.whole("w" + " ".repeat(100) + "1 a;");
        OF.whole("w1 a;" + " ".repeat(145));
        OF.sentence("(needed only between two rows of letters, two NUMBERS)");
        OF.run("w1a;w2bc;", "word 0 1 = 1, word 0 0 = 1, word 1 1 = 2, word 1 0 = 2");
        OF.fault("d1;g1000;", 4);
        OF.fault("d1;g1 00 1;", 6);
        OF.fault("wa1;", 0);
        OF.fault("d1;g1 0 01;", 8);
        OF.sentence("blanks (32) alone: other signs are none");
        for (int sign : new int[] {0, 9, 10, 11, 12, 13, 31, 33, 127, 160}) {
            OF.fault("w1 a;" + (char) sign, 5);
            OF.fault("d" + (char) sign + "1;", 1);
        }
    }

    private static void itemsAreEnded() {
        OF.sentence("ITEMS (none, too)");
        OF.bare("suburb = 0, count 0 = 0, count 1 = 0, count 2 = 0");
        OF.bare("type 32 = 1, suburb = 0, count 5 = 0");
        OF.run(" ".repeat(150), "count 5 = 0");
        OF.sentence("each ended by ;");
        OF.run("w1 a;", "count 0 = 1");
        OF.fault("w1 a", 4);
        OF.fault("d1 d1;", 3);
        OF.fault("w1 a w1 b;", 5);
        OF.fault("d1;g1 0 0 1 g1 0 0 1;", 12);
        OF.fault(";", 0);
        OF.fault("w1 a;;", 5);
        OF.sentence("suburb: THE TEXT tells all anew, and is empty then: how many ITEMS.");
        OF.bare("tell w1 a;d1;g1 0 0 1;w2 b; = 4, count 5 = 0, count 0 = 2, count 1 = 1, count 2 = 1");
        OF.bare("tell d1;d2;w9 a; = 3, tell d3; = 1, count 0 = 0, count 1 = 1, drive 0 0 = 3, drive 1 0 = BAD");
    }

    private static void wordsBeginItems() {
        OF.sentence("(w, d, g alone begin ITEMS.)");
        for (char other = 'a'; other <= 'z'; other++) {
            if (other != 'w' && other != 'd' && other != 'g') {
                OF.fault(other + "1 a;", 0);
                OF.fault("w1 a; " + other + "1;", 6);
            }
        }
        OF.fault("ww1 a;", 0);
        OF.fault("wd1;", 0);
        OF.fault("dd1;", 0);
        OF.fault("gg1 0 0 1;", 0);
        OF.fault("W1 a;", 0);
        OF.fault("D1;", 0);
        OF.fault("1;", 0);
    }

    /** Each place in each item: what is ahead of it, and the tokens that may stand there (numbers: least, most). */
    private static final String[][] PLACES = {
        {"d1;d1;", "w", "d", "g", ""}, {"d1;d1;w ", "1..9"}, {"d1;d1;w1 ", "ROW"}, {"d1;d1;w1 a ", ";"},
        {"d1;d1;d ", "1..8"}, {"d1;d1;d1 ", ";"}, {"d1;d1;g ", "1..24"}, {"d1;d1;g1 ", "0..1"}, {"d1;d1;g1 0 ", "0..7"},
        {"d1;d1;g1 0 0 ", "1..4"}, {"d1;d1;g1 0 0 1 ", ";"}};
    private static final String[] TOKENS = {"", ";", "a", "h", "i", "z", "w", "d", "g", "ab", "wd", "abcdef", "hhhhhh",
        "abcdefg", "aaaaaaaa", "wdg", "?"};

    private static boolean mayStand(String[] place, String token) {
        for (int i = 1; i < place.length; i++) {
            int dots = place[i].indexOf("..");
            if (place[i].equals(token) || place[i].equals("ROW") && token.matches("[a-h]{1,6}")) {
                return true;
            }
            if (dots > 0 && token.matches("0|[1-9][0-9]?") && Integer.parseInt(token) >= Integer.parseInt(place[i].substring(0, dots))
                && Integer.parseInt(token) <= Integer.parseInt(place[i].substring(dots + 2))) {
                return true;
            }
        }
        return false;
    }

    private static void place(String[] place, String token) {
        String text = place[0] + token;
        if (!mayStand(place, token)) {
            // of no token at all it is the text's length: the same number
            OF.fault(text, place[0].length());
            if (!token.isEmpty()) {
                OF.fault(text + " ;?", place[0].length());
            }
        } else if (token.isEmpty() || token.equals(";")) {
            OF.whole(text);
        } else {
            OF.fault(text, text.length());
        }
    }

    private static void faultsAtEveryPlace() {
        OF.sentence("FAULT: the place of the first letter of the first TOKEN that can't stand there");
        for (String[] place : PLACES) {
            for (String token : TOKENS) {
                place(place, token);
            }
        }
        OF.sentence("(.. a NUMBER beyond what it may be, too)");
        for (String[] place : PLACES) {
            for (int number = 0; number <= 130; number++) {
                place(place, String.valueOf(number));
            }
        }
    }

    private static void signsAtEveryPlace() {
        OF.sentence("of any other letter .. that TOKEN's");
        for (int sign = 0; sign <= 255; sign++) {
            boolean told = sign == ' ' || sign == ';' || sign >= '0' && sign <= '9' || sign >= 'a' && sign <= 'z';
            for (int i = 0; i < PLACES.length && !told; i++) {
                OF.fault(PLACES[i][0] + (char) sign, PLACES[i][0].length());
            }
            if (!told) {
                OF.fault("w1 ab" + (char) sign + "c;", 5);
                OF.fault("d1" + (char) sign + ";", 2);
                OF.fault("d1;g1" + (char) sign + "0 0 1;", 5);
            }
        }
    }

    private static void oddNumbers() {
        OF.sentence("a NUMBER above 99 or with a 0 ahead of others, that TOKEN's");
        for (String number : ODD_NUMBERS) {
            for (String[] place : PLACES) {
                place(place, number);
            }
        }
        OF.run("d1;g1 0 0 1;", "goer 0 1 = 0, goer 0 2 = 0");
        OF.fault("w10000000000000000000000000000000001a;", 1);
        OF.fault("d" + "1".repeat(140) + ";", 1);
        OF.fault("d" + "0".repeat(140) + "1;", 1);
    }

    private static void theFirstFault() {
        OF.sentence("the first TOKEN that can't stand there, of several");
        OF.fault("d1;d0;d9;?", 4);
        OF.fault("d9;?", 1);
        OF.fault("w1 i?;", 3);
        OF.fault("x 100 ?", 0);
        OF.fault("d1;? d01;", 3);
        OF.fault("d01;?", 1);
        OF.fault("d1; w1", 6);
        OF.fault("w0 abcdefg", 1);
    }

    private static void textsThatEndTooEarly() {
        OF.sentence("the text's length, if it ends too early");
        String[] items = {"w1 abc;", "d1;", "d1;g24 0 0 1;", " w  1  abc  ;", " d  1  ;", "d1; g  24  0  0  1  ;"};
        for (String item : items) {
            int whole = item.startsWith("d1;") ? 3 : 0;
            for (int end = whole + 1; end < item.length(); end++) {
                String early = item.substring(0, end);
                if (!early.substring(whole).isBlank()) {
                    OF.fault(early, end);
                    OF.fault(early + "  ", end + 2);
                }
            }
        }
        OF.fault("w", 1);
        OF.fault("w1 a;d" + " ".repeat(144), 150);
    }

    private static void theTextStays() {
        OF.sentence("-10 less FAULT: nothing changes (THE TEXT stays, too).");
        OF.run("w3 bad;d4;g2 0 1 2;", "rakes 0 0 = 1, cat 0 1 = 1, hour = 0, keep 1 = 1, rate 1 0 = 6",
            "tell w1 a;d2;d3;g1 1 0 1;x = -30, count 5 = 21, suburb = -30, count 5 = 21",
            "count 0 = 1, count 1 = 1, count 2 = 1, count 3 = 1, count 4 = 3, board 0 = b#d., drive 0 0 = 4",
            "word 0 0 = 3, word 0 1 = 3, goer 0 0 = 2, goer 0 2 = 1, trace = 11, back 0 = STATE",
            "undo = 2, undo = 1, board 0 = bad., back 1 = 1, board 0 = b#d., type 32 = 22, clear = 22, suburb = 0");
        OF.bare("typed d, suburb = -11, typed 4;, suburb = 1, drive 0 0 = 4");
        OF.bare("typed w1 a;;, suburb = -15, suburb = -15, clear = 6, suburb = 0");
    }

    private static void readAnew() {
        OF.sentence("Read anew: as told (what is not told as at first)");
        OF.run("w5 abc;w6 abd;w7 abe;d4;d4;g1 0 0 1;g1 0 1 1;g1 1 2 1;", "rakes 0 0 = 1, rakes 1 0 = 1, hour = 3",
            "tell w1 ab;w2 abh;d4;g1 0 2 1; = 4, count 0 = 2, count 1 = 1, count 2 = 1, count 3 = 0",
            "word 2 0 = BAD, letter 0 2 = BAD, drive 1 0 = BAD, goer 1 0 = BAD, board 0 = ...., drive 0 1 = 0",
            "rakes 0 1 = 1, odds 0 5 = 1/2, hour = 1, board 0 = ab##, drive 0 2 = 3, likely 0 0 = 1/3",
            "word 0 2 = 1, word 0 3 = 1, word 1 3 = 0");
        OF.run("w1 abc;d8;d8;", "rakes 0 0 = 5, rakes 1 0 = 5, treads 1 0 1 = 8, hour = 0",
            "tell w1 abc;d8;d8; = 3, board 0 = ........, board 1 = ........, drive 1 1 = 0, count 3 = 0");
        OF.run("w1 a;d1;g1 0 0 1;", "tell d2; = 1, count 0 = 0, count 1 = 1, count 2 = 0, drive 0 2 = 0, word 0 0 = BAD",
            "tell w1 b;w1 c; = 2, count 0 = 2, count 1 = 0, drive 0 0 = BAD, word 0 3 = 1, round = none",
            "suburb = 0, count 0 = 0, word 0 0 = BAD");
        OF.sentence("Read anew: IMAGES are gone");
        OF.run("w1 a;d1;", "keep 0 = 0, keep 1 = 0, tell d1; = 1, back 0 = STATE, back 1 = STATE, keep 1 = 0, back 1 = 0",
            "back 0 = STATE");
        OF.bare("keep 0 = 0, suburb = 0, back 0 = STATE");
        OF.sentence("Read anew: nothing can be UNDONE");
        OF.run("w1 a;d1;", "rakes 0 0 = 0, hour = 0, tell d1; = 1, count 4 = 0, undo = STATE, board 0 = ., rains = 0",
            "undo = 0, undo = STATE");
        OF.bare("12 x rains = 0, suburb = 0, undo = STATE, hour = 0, undo = 0, count 3 = 0, undo = STATE");
        OF.sentence("Read anew: THE TRACE goes on");
        OF.run("w1 a;d1;", "rate 3 0 = 4, trace = 1011, tell w1 b; = 1, trace = 1011, rate 0 0 = 1, trace = 1012, suburb = 0",
            "trace = 1012");
    }
}
