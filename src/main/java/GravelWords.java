/**
 * Words raked on gravel drives: what is left of them, what they can have been, how long they last.
 * The document's words in capitals (FITS, LOOK, TRACKS ..) are those of ../shared/DOC.md.
 */
public final class GravelWords {
    public static final int BAD = -1, STATE = -2, FULL = -3, NONE = -9;
    public static final int NO = -1000000;

    private static final int TEXT_MOST = 150, SIGN_MOST = 255, FAULT_AT = -10;
    private static final int WORDS_MOST = 6, DRIVES_MOST = 4, GOERS_MOST = 6;
    private static final int WORD_LONGEST = 6, SAID_MOST = 9, DRIVE_LONGEST = 8;
    private static final int FIRST_MOST = 7, STRIDE_MOST = 4, HOUR_MOST = 24;
    private static final int UNDO_MOST = 10, IMAGES = 2, ODDS_OF = 10;
    private static final int LETTER_A = 0, LETTER_E = 4, LETTERS = 8, BLANK = 8;
    private static final int GOER_HOUR = 0, GOER_DRIVE = 1, GOER_FIRST = 2, GOER_STRIDE = 3, GOER_PARTS = 4;
    private static final int NEVER = -1, ALWAYS = 1000;
    private static final int WORD = 0, LETTER = 1, BILL = 2, VOW = 3, WRIT = 4, WILL = 5;

    private final Reader reader = new Reader();
    private final Suburb told = new Suburb();
    private final Morning now = new Morning();
    private final Past past = new Past();
    private final Shelf images = new Shelf(IMAGES);
    private final int[] latestEnds = new int[DRIVES_MOST];
    private int imagesKept;
    private long traced;

    public GravelWords() {
        now.becomeBare();
    }

    // ---- the suburb

    public int type(int letter) {
        if (letter < 0 || letter > SIGN_MOST) {
            return BAD;
        }
        if (reader.length >= TEXT_MOST) {
            return FULL;
        }
        reader.add(letter);
        return reader.length;
    }

    public int clear() {
        int had = reader.length;
        reader.length = 0;
        return had;
    }

    public int suburb() {
        int items = reader.readAll();
        if (items < 0) {
            return items;
        }
        told.become(reader.draft);
        reader.length = 0;
        now.becomeBare();
        past.forget();
        imagesKept = 0;
        return items;
    }

    public int word(int w, int what) {
        if (!told.hasWord(w)) {
            return BAD;
        }
        switch (what) {
            case 0: return told.longOfWord(w);
            case 1: return told.saidOf(w);
            case 2: return doubtOf(w);
            case 3: return nearestTo(w);
            default: return BAD;
        }
    }

    public int letter(int w, int k) {
        if (!told.hasWord(w) || k < 0 || k >= told.longOfWord(w)) {
            return BAD;
        }
        return told.contentOf(w, k);
    }

    public int drive(int d, int what) {
        if (!told.hasDrive(d)) {
            return BAD;
        }
        switch (what) {
            case 0: return told.longOfDrive(d);
            case 1: return now.troddenOf(d);
            case 2: return fitsOf(d);
            case 3: return lookOn(d);
            case 4: return tracksOf(d);
            case 5: return firstTrackOf(d);
            default: return BAD;
        }
    }

    public int cell(int d, int x) {
        if (!told.hasCell(d, x)) {
            return BAD;
        }
        return now.isTrodden(d, x) ? NONE : now.contentOf(d, x);
    }

    public int goer(int g, int what) {
        if (!told.hasGoer(g) || what < 0 || what >= GOER_PARTS) {
            return BAD;
        }
        return told.partOfGoer(g, what);
    }

    // ---- what is done

    public int rakes(int d, int w) {
        if (!told.hasDrive(d) || !told.hasWord(w)) {
            return BAD;
        }
        int blank = told.longOfDrive(d) - told.longOfWord(w);
        if (blank < 0) {
            return STATE;
        }
        past.remember(now);
        for (int x = 0; x < DRIVE_LONGEST; x++) {
            now.lay(d, x, told.contentOf(w, x));
        }
        now.setTrodden(d, 0);
        return blank;
    }

    public int treads(int d, int first, int stride) {
        if (!told.hasDrive(d) || first < 0 || first > FIRST_MOST || !isStride(stride)) {
            return BAD;
        }
        past.remember(now);
        return now.treadAlso(d, trackOn(d, first, stride));
    }

    public int cat(int d, int x) {
        if (!told.hasCell(d, x)) {
            return BAD;
        }
        if (now.isTrodden(d, x)) {
            return STATE;
        }
        past.remember(now);
        now.treadAlso(d, 1 << x);
        return Integer.bitCount(now.troddenOf(d));
    }

    public int rains() {
        past.remember(now);
        return now.washOut();
    }

    public int hour() {
        if (now.hour >= HOUR_MOST) {
            return STATE;
        }
        past.remember(now);
        now.hour++;
        int came = 0;
        for (int g = 0; g < told.goers; g++) {
            if (told.partOfGoer(g, GOER_HOUR) == now.hour) {
                now.treadAlso(told.partOfGoer(g, GOER_DRIVE), trackOfGoer(g));
                came++;
            }
        }
        return came;
    }

    public int undo() {
        if (past.known <= 0) {
            return STATE;
        }
        past.undoInto(now);
        return past.known;
    }

    // ---- what is left

    public int likely(int d, int w, int what) {
        if (!told.hasDrive(d) || !told.hasWord(w) || what < 0 || what > 1) {
            return BAD;
        }
        int fits = fitsOf(d);
        boolean itFits = (fits & (1 << w)) != 0;
        int upper = itFits ? told.saidOf(w) : 0;
        int lower = itFits ? told.weightOf(fits) : 1;
        return inLeastTerms(what == 0 ? upper : lower, commonPart(upper, lower));
    }

    public int spoil(int d, int stride, int what) {
        if (!told.hasDrive(d) || !isStride(stride) || what < 0 || what > 1) {
            return BAD;
        }
        int letters = readableOn(d);
        int best = 0;
        int fewest = DRIVE_LONGEST + 1;
        for (int first = 0; first < stride; first++) {
            int spoilt = Integer.bitCount(letters & trackOn(d, first, stride));
            if (spoilt < fewest) {
                best = first;
                fewest = spoilt;
            }
        }
        return what == 0 ? best : fewest;
    }

    public int round(int k) {
        if (k < -1 || k >= DRIVES_MOST) {
            return BAD;
        }
        for (int d = 0; d < DRIVES_MOST; d++) {
            Rows.put(latestEnds, d, latestEndOf(d));
        }
        int order = bestOrder(latestEnds, 0, 0, now.hour);
        int read = readIn(order);
        if (k < 0) {
            return read;
        }
        return k < read ? lastReadOf(order >> (3 * (read - 1 - k))) : NONE;
    }

    public int odds(int d, int x, int what) {
        if (!told.hasDrive(d) || x < 0 || x > ODDS_OF || what < 0 || what > 1) {
            return BAD;
        }
        int stays = ODDS_OF - x;
        int part = inLeastTerms(what == 0 ? stays : ODDS_OF, commonPart(stays, ODDS_OF));
        int answer = 1;
        for (int g = 0; g < told.goers; g++) {
            if (canSpoil(g, d)) {
                answer *= part;
            }
        }
        return answer;
    }

    // ---- kinds, images

    public int rate(int kind, int w) {
        if (!told.hasWord(w)) {
            return NO;
        }
        switch (kind) {
            case WORD: return askWord(w);
            case LETTER: return askLetter(w);
            case BILL: return askBill(w);
            case VOW: return askVow(w);
            case WRIT: return askWrit(w);
            case WILL: return askWill(w);
            default: return NO;
        }
    }

    public int keep(int image) {
        if (image < 0 || image >= IMAGES) {
            return BAD;
        }
        images.store(image, now);
        imagesKept |= 1 << image;
        return now.hour;
    }

    public int back(int image) {
        if (image < 0 || image >= IMAGES) {
            return BAD;
        }
        if ((imagesKept & (1 << image)) == 0) {
            return STATE;
        }
        images.fetch(image, now);
        past.forget();
        return now.hour;
    }

    public int count(int what) {
        switch (what) {
            case 0: return told.words;
            case 1: return told.drives;
            case 2: return told.goers;
            case 3: return now.hour;
            case 4: return past.known;
            case 5: return reader.length;
            default: return BAD;
        }
    }

    public long trace() {
        return traced;
    }

    // ---- strides

    private static boolean isStride(int stride) {
        return stride >= 1 && stride <= STRIDE_MOST;
    }

    /** The cells of a drive, as bits, that one tread covers. */
    private int trackOn(int d, int first, int stride) {
        int cells = 0;
        int end = told.longOfDrive(d);
        if (first >= 0 && stride >= 1) {
            for (int x = first; x < end; x += stride) {
                cells |= 1 << x;
            }
        }
        return cells;
    }

    private int trackOfGoer(int g) {
        int d = told.partOfGoer(g, GOER_DRIVE);
        return trackOn(d, told.partOfGoer(g, GOER_FIRST), told.partOfGoer(g, GOER_STRIDE));
    }

    private boolean isTrackOf(int d, int first, int stride) {
        return trackOn(d, first, stride) == now.troddenOf(d);
    }

    private int tracksOf(int d) {
        int tracks = 0;
        for (int first = 0; first <= FIRST_MOST; first++) {
            for (int stride = 1; stride <= STRIDE_MOST; stride++) {
                if (isTrackOf(d, first, stride)) {
                    tracks++;
                }
            }
        }
        return tracks;
    }

    private int firstTrackOf(int d) {
        for (int first = 0; first <= FIRST_MOST; first++) {
            for (int stride = 1; stride <= STRIDE_MOST; stride++) {
                if (isTrackOf(d, first, stride)) {
                    return 10 * first + stride;
                }
            }
        }
        return NONE;
    }

    // ---- words that fit

    /** The cells of a drive, as bits, in which a letter can be read. */
    private int readableOn(int d) {
        int cells = 0;
        int end = told.longOfDrive(d);
        for (int x = 0; x < end; x++) {
            if (!now.isTrodden(d, x) && now.contentOf(d, x) != BLANK) {
                cells |= 1 << x;
            }
        }
        return cells;
    }

    private int fitsOf(int d) {
        int fits = 0;
        for (int w = 0; w < told.words; w++) {
            if (canHaveBeen(d, w)) {
                fits |= 1 << w;
            }
        }
        return fits;
    }

    private boolean canHaveBeen(int d, int w) {
        int end = told.longOfDrive(d);
        if (told.longOfWord(w) > end) {
            return false;
        }
        for (int x = 0; x < end; x++) {
            if (!now.isTrodden(d, x) && now.contentOf(d, x) != told.contentOf(w, x)) {
                return false;
            }
        }
        return true;
    }

    private int lookOn(int d) {
        int fits = fitsOf(d);
        if (Integer.bitCount(fits) < 2) {
            return NONE;
        }
        int best = NONE;
        int least = WORDS_MOST * SAID_MOST + 1;
        int end = told.longOfDrive(d);
        for (int x = 0; x < end; x++) {
            int heaviest = now.isTrodden(d, x) ? heaviestAlikeAt(x, fits) : least;
            if (heaviest < least) {
                best = x;
                least = heaviest;
            }
        }
        return best;
    }

    private int heaviestAlikeAt(int x, int fits) {
        int heaviest = 0;
        for (int content = 0; content <= BLANK; content++) {
            heaviest = Math.max(heaviest, told.weightOf(fits & told.wordsWith(x, content)));
        }
        return heaviest;
    }

    /** In how many cells two words differ: those must be trodden to make one doubtful by the other. */
    private int differing(int w, int other) {
        int cells = 0;
        for (int x = 0; x < WORD_LONGEST; x++) {
            if (told.contentOf(w, x) != told.contentOf(other, x)) {
                cells++;
            }
        }
        return cells;
    }

    private int nearestTo(int w) {
        int near = NONE;
        int fewest = WORD_LONGEST + 1;
        for (int other = 0; other < told.words; other++) {
            int cells = other == w ? fewest : differing(w, other);
            if (cells < fewest) {
                near = other;
                fewest = cells;
            }
        }
        return near;
    }

    private int doubtOf(int w) {
        int near = nearestTo(w);
        return near == NONE ? NONE : differing(w, near);
    }

    // ---- fractions

    private static int commonPart(int upper, int lower) {
        for (int part = Math.max(upper, lower); part > 1; part--) {
            if (upper % part == 0 && lower % part == 0) {
                return part;
            }
        }
        return 1;
    }

    private static int inLeastTerms(int number, int common) {
        return common > 1 ? number / common : number;
    }

    private boolean canSpoil(int g, int d) {
        return told.partOfGoer(g, GOER_DRIVE) == d
            && told.partOfGoer(g, GOER_HOUR) > now.hour
            && (readableOn(d) & trackOfGoer(g)) != 0;
    }

    // ---- rounds: an order of drives is a number with an octal digit for each drive read,
    // its number and 1, so that the empty order is 0 and orders need no rows of their own

    private static int readIn(int order) {
        int read = 0;
        for (int k = 0; k < DRIVES_MOST; k++) {
            if ((order >> (3 * k)) != 0) {
                read++;
            }
        }
        return read;
    }

    private static int lastReadOf(int order) {
        return (order & 7) - 1;
    }

    private static boolean isReadIn(int order, int d) {
        for (int k = 0; k < DRIVES_MOST; k++) {
            if (lastReadOf(order >> (3 * k)) == d) {
                return true;
            }
        }
        return false;
    }

    /** The best order that begins with this one, which has so many drives and ends at that hour. */
    private static int bestOrder(int[] latestEnds, int order, int read, int ends) {
        int best = order;
        if (read >= DRIVES_MOST) {
            return best;
        }
        for (int d = 0; d < DRIVES_MOST; d++) {
            int way = read == 0 ? 0 : Math.abs(d - lastReadOf(order));
            int end = ends + way + 1;
            if (!isReadIn(order, d) && end <= Rows.at(latestEnds, d)) {
                int found = bestOrder(latestEnds, order * 8 + d + 1, read + 1, end);
                // only a longer one: of several as long, the one found first is the first
                best = readIn(found) > readIn(best) ? found : best;
            }
        }
        return best;
    }

    /** The latest hour at which the reading of a drive can end, to be in time: that ahead of its next goer. */
    private int latestEndOf(int d) {
        int latest = told.hasDrive(d) && readableOn(d) != 0 ? ALWAYS : NEVER;
        for (int g = 0; g < told.goers; g++) {
            int comes = told.partOfGoer(g, GOER_HOUR);
            if (told.partOfGoer(g, GOER_DRIVE) == d && comes >= now.hour) {
                latest = Math.min(latest, comes - 1);
            }
        }
        return latest;
    }

    // ---- kinds: a body asks that of the kind above it by its name, each once

    private int askWord(int w) {
        traced += 1;
        return told.longOfWord(w);
    }

    private int askLetter(int w) {
        traced += 10;
        return askWord(w) + told.saidOf(w);
    }

    private int askBill(int w) {
        traced += 100;
        return askWord(w) - told.vowelsOf(w);
    }

    private int askVow(int w) {
        traced += 1000;
        return 2 * askLetter(w);
    }

    private int askWrit(int w) {
        traced += 10000;
        return askBill(w) + w;
    }

    private int askWill(int w) {
        traced += 100000;
        return askWord(w) + now.hour;
    }

    private static boolean isVowel(int letter) {
        return letter == LETTER_A || letter == LETTER_E;
    }

    /** Rows that are looked into only where they have a place: no index can fail. */
    private static final class Rows {
        private Rows() {
        }

        static int at(int[] row, int i) {
            return row != null && i >= 0 && i < row.length ? row[i] : 0;
        }

        static void put(int[] row, int i, int number) {
            if (row != null && i >= 0 && i < row.length) {
                row[i] = number;
            }
        }

        static void copy(int[] from, int[] to) {
            if (from != null && to != null) {
                for (int i = 0; i < from.length && i < to.length; i++) {
                    to[i] = from[i];
                }
            }
        }
    }

    /** Words, drives and goers, as a text tells them. */
    private static final class Suburb {
        private int words;
        private int drives;
        private int goers;
        private final int[] letters = new int[WORDS_MOST * WORD_LONGEST];
        private final int[] wordsLong = new int[WORDS_MOST];
        private final int[] said = new int[WORDS_MOST];
        private final int[] drivesLong = new int[DRIVES_MOST];
        private final int[] goerParts = new int[GOERS_MOST * GOER_PARTS];

        void becomeEmpty() {
            words = 0;
            drives = 0;
            goers = 0;
        }

        void become(Suburb other) {
            if (other != null) {
                words = other.words;
                drives = other.drives;
                goers = other.goers;
                Rows.copy(other.letters, letters);
                Rows.copy(other.wordsLong, wordsLong);
                Rows.copy(other.said, said);
                Rows.copy(other.drivesLong, drivesLong);
                Rows.copy(other.goerParts, goerParts);
            }
        }

        boolean hasWord(int w) {
            return w >= 0 && w < words;
        }

        boolean hasDrive(int d) {
            return d >= 0 && d < drives;
        }

        boolean hasCell(int d, int x) {
            return hasDrive(d) && x >= 0 && x < longOfDrive(d);
        }

        boolean hasGoer(int g) {
            return g >= 0 && g < goers;
        }

        int longOfWord(int w) {
            return Rows.at(wordsLong, w);
        }

        int saidOf(int w) {
            return Rows.at(said, w);
        }

        int longOfDrive(int d) {
            return Rows.at(drivesLong, d);
        }

        int partOfGoer(int g, int part) {
            return Rows.at(goerParts, g * GOER_PARTS + part);
        }

        /** What is in a cell, were the word raked there. */
        int contentOf(int w, int x) {
            return x < longOfWord(w) ? Rows.at(letters, w * WORD_LONGEST + x) : BLANK;
        }

        int wordsWith(int x, int content) {
            int bits = 0;
            for (int w = 0; w < words; w++) {
                if (contentOf(w, x) == content) {
                    bits |= 1 << w;
                }
            }
            return bits;
        }

        int weightOf(int bits) {
            int weight = 0;
            for (int w = 0; w < words; w++) {
                weight += (bits & (1 << w)) != 0 ? saidOf(w) : 0;
            }
            return weight;
        }

        int vowelsOf(int w) {
            int vowels = 0;
            int end = longOfWord(w);
            for (int k = 0; k < end; k++) {
                vowels += isVowel(contentOf(w, k)) ? 1 : 0;
            }
            return vowels;
        }

        /** A word without letters, which come one by one. */
        void addWord(int times) {
            if (words < WORDS_MOST) {
                Rows.put(said, words, times);
                Rows.put(wordsLong, words, 0);
                words++;
            }
        }

        void addLetter(int letter) {
            int w = words - 1;
            int k = longOfWord(w);
            if (w >= 0 && k < WORD_LONGEST) {
                Rows.put(letters, w * WORD_LONGEST + k, letter);
                Rows.put(wordsLong, w, k + 1);
            }
        }

        void addDrive(int cells) {
            if (drives < DRIVES_MOST) {
                Rows.put(drivesLong, drives, cells);
                drives++;
            }
        }

        void addGoer(int comes, int d, int first, int stride) {
            if (goers < GOERS_MOST) {
                int from = goers * GOER_PARTS;
                Rows.put(goerParts, from + GOER_HOUR, comes);
                Rows.put(goerParts, from + GOER_DRIVE, d);
                Rows.put(goerParts, from + GOER_FIRST, first);
                Rows.put(goerParts, from + GOER_STRIDE, stride);
                goers++;
            }
        }
    }

    /** The text, and how it is read; where that stops, the token that can't stand there is the latest one. */
    private static final class Reader {
        private static final int END = 0, GAP = 1, ROW = 2, NUMBER = 3, STOP = 4, WRONG = 5;
        private static final int TOO_MUCH = 100;

        private final int[] signs = new int[TEXT_MOST];
        private int length;
        private final Suburb draft = new Suburb();
        private int place;
        private int sort;
        private int start;
        private int number;

        void add(int sign) {
            if (length < TEXT_MOST) {
                Rows.put(signs, length, sign);
                length++;
            }
        }

        /** How many items the text has, or -10 less its fault; the draft is whole only without one. */
        int readAll() {
            draft.becomeEmpty();
            place = 0;
            next();
            int items = 0;
            while (sort != END && items <= TEXT_MOST) {
                if (!readItem() || sort != STOP) {
                    return FAULT_AT - start;
                }
                next();
                items++;
            }
            return items;
        }

        private boolean readItem() {
            if (isBegin('w') && draft.words < WORDS_MOST) {
                return readWord();
            }
            if (isBegin('d') && draft.drives < DRIVES_MOST) {
                return readDrive();
            }
            if (isBegin('g') && draft.goers < GOERS_MOST) {
                return readGoer();
            }
            return false;
        }

        private boolean isBegin(char begin) {
            return sort == ROW && place - start == 1 && Rows.at(signs, start) == begin;
        }

        private boolean readWord() {
            next();
            int times = takeNumber(1, SAID_MOST);
            if (times < 0 || sort != ROW || place - start > WORD_LONGEST) {
                return false;
            }
            draft.addWord(times);
            for (int i = start; i < place; i++) {
                int letter = Rows.at(signs, i) - 'a';
                if (letter < 0 || letter >= LETTERS) {
                    return false;
                }
                draft.addLetter(letter);
            }
            next();
            return true;
        }

        private boolean readDrive() {
            next();
            int cells = takeNumber(1, DRIVE_LONGEST);
            if (cells < 0) {
                return false;
            }
            draft.addDrive(cells);
            return true;
        }

        private boolean readGoer() {
            next();
            int comes = takeNumber(1, HOUR_MOST);
            int d = comes < 0 ? -1 : takeNumber(0, draft.drives - 1);
            int first = d < 0 ? -1 : takeNumber(0, FIRST_MOST);
            int stride = first < 0 ? -1 : takeNumber(1, STRIDE_MOST);
            if (stride < 0) {
                return false;
            }
            draft.addGoer(comes, d, first, stride);
            return true;
        }

        /** The number that stands here, or -1: then it stays the latest token. */
        private int takeNumber(int lowest, int highest) {
            if (sort != NUMBER || number < lowest || number > highest) {
                return -1;
            }
            int taken = number;
            next();
            return taken;
        }

        /** Goes on to the next token; place is behind it then. */
        private void next() {
            while (place < length && sortAt(place) == GAP) {
                place++;
            }
            start = place;
            sort = sortAt(place);
            number = 0;
            if (sort == NUMBER || sort == ROW) {
                while (place < length && sortAt(place) == sort) {
                    number = sort == ROW ? 0 : Math.min(TOO_MUCH, number * 10 + Rows.at(signs, place) - '0');
                    place++;
                }
                if (Rows.at(signs, start) == '0' && place - start > 1) {
                    number = TOO_MUCH;
                }
            } else if (sort != END) {
                place++;
            }
        }

        private int sortAt(int i) {
            if (i >= length) {
                return END;
            }
            int sign = Rows.at(signs, i);
            if (sign >= 'a' && sign <= 'z') {
                return ROW;
            }
            if (sign >= '0' && sign <= '9') {
                return NUMBER;
            }
            return sign == ' ' ? GAP : sign == ';' ? STOP : WRONG;
        }
    }

    /** What is in all cells, what is trodden, and the hour. */
    private static final class Morning {
        private final int[] cells = new int[DRIVES_MOST * DRIVE_LONGEST];
        private final int[] trodden = new int[DRIVES_MOST];
        private int hour;

        void becomeBare() {
            for (int i = 0; i < cells.length; i++) {
                cells[i] = BLANK;
            }
            for (int d = 0; d < trodden.length; d++) {
                trodden[d] = 0;
            }
            hour = 0;
        }

        void become(Morning other) {
            if (other != null) {
                Rows.copy(other.cells, cells);
                Rows.copy(other.trodden, trodden);
                hour = other.hour;
            }
        }

        int contentOf(int d, int x) {
            return Rows.at(cells, d * DRIVE_LONGEST + x);
        }

        void lay(int d, int x, int content) {
            Rows.put(cells, d * DRIVE_LONGEST + x, content);
        }

        int troddenOf(int d) {
            return Rows.at(trodden, d);
        }

        boolean isTrodden(int d, int x) {
            return (troddenOf(d) & (1 << x)) != 0;
        }

        void setTrodden(int d, int bits) {
            Rows.put(trodden, d, bits);
        }

        /** How many of these cells were not trodden. */
        int treadAlso(int d, int bits) {
            int before = troddenOf(d);
            setTrodden(d, before | bits);
            return Integer.bitCount(bits & ~before);
        }

        int washOut() {
            int washed = 0;
            for (int i = 0; i < cells.length; i++) {
                if (cells[i] != BLANK && !isVowel(cells[i])) {
                    cells[i] = BLANK;
                    washed++;
                }
            }
            return washed;
        }
    }

    /** Mornings made once and filled again and again, so that no call makes an object. */
    private static final class Shelf {
        private final Morning[] mornings;

        Shelf(int size) {
            mornings = new Morning[Math.max(0, size)];
            for (int i = 0; i < mornings.length; i++) {
                mornings[i] = new Morning();
            }
        }

        void store(int i, Morning from) {
            if (i >= 0 && i < mornings.length && mornings[i] != null) {
                mornings[i].become(from);
            }
        }

        void fetch(int i, Morning to) {
            if (i >= 0 && i < mornings.length && to != null) {
                to.become(mornings[i]);
            }
        }
    }

    /** The mornings ahead of what was done last, in a ring, in which a new one takes the oldest one's place. */
    private static final class Past {
        private final Shelf ring = new Shelf(UNDO_MOST);
        private int free;
        private int known;

        void forget() {
            known = 0;
        }

        void remember(Morning now) {
            ring.store(free, now);
            free = free + 1 < UNDO_MOST ? free + 1 : 0;
            known = Math.min(known + 1, UNDO_MOST);
        }

        void undoInto(Morning now) {
            if (known > 0) {
                free = free > 0 ? free - 1 : UNDO_MOST - 1;
                ring.fetch(free, now);
                known--;
            }
        }
    }
}
