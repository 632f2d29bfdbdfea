import java.math.BigInteger;
import java.util.ArrayDeque;
import java.util.ArrayList;
import java.util.Arrays;
import java.util.HashMap;
import java.util.List;
import java.util.Map;
import java.util.TreeSet;
import java.util.regex.Matcher;
import java.util.regex.Pattern;

/**
 * The document again, by other means than the program's: whole boards are compared,
 * all subsets and all orders are tried. Slow and plain.
 */
final class Model {
    record Word(String row, int said) { }

    record Goer(int hour, int drive, int first, int stride) { }

    record State(List<String> boards, List<TreeSet<Integer>> trodden, int hour) {
        State copy() {
            List<TreeSet<Integer>> cells = new ArrayList<>();
            for (TreeSet<Integer> of : trodden) {
                cells.add(new TreeSet<>(of));
            }
            return new State(new ArrayList<>(boards), cells, hour);
        }
    }

    private String text = "";
    private List<Word> words = new ArrayList<>();
    private List<Goer> goers = new ArrayList<>();
    private int drives = 0;
    private State now = new State(new ArrayList<>(), new ArrayList<>(), 0);
    private final ArrayDeque<State> past = new ArrayDeque<>();
    private final State[] images = new State[2];
    private long trace = 0;

    private static boolean in(int n, int low, int high) {
        return n >= low && n <= high;
    }

    private boolean noDrive(int d) {
        return !in(d, 0, drives - 1);
    }

    private boolean noWord(int w) {
        return !in(w, 0, words.size() - 1);
    }

    private int longOf(int d) {
        return now.boards.get(d).length();
    }

    int type(int letter) {
        if (!in(letter, 0, 255)) return -1;
        if (text.length() == 150) return -3;
        text += (char) letter;
        return text.length();
    }

    int clear() {
        int had = text.length();
        text = "";
        return had;
    }

    /** What each token of an item may be: n..m numbers, D a drive told ahead, R a row, ; the end. */
    private static final Map<String, String[]> ITEMS = Map.of(
        "w", new String[] {"1-9", "R", ";"},
        "d", new String[] {"1-8", ";"},
        "g", new String[] {"1-24", "D", "0-7", "1-4", ";"});

    int suburb() {
        List<Word> newWords = new ArrayList<>();
        List<Integer> newDrives = new ArrayList<>();
        List<Goer> newGoers = new ArrayList<>();
        Matcher m = Pattern.compile("[a-z]+|[0-9]+|[^ ]", Pattern.DOTALL).matcher(text);
        List<String> item = new ArrayList<>();
        int items = 0;
        while (m.find()) {
            String token = m.group();
            boolean stands;
            if (item.isEmpty()) {
                stands = token.equals("w") && newWords.size() < 6
                    || token.equals("d") && newDrives.size() < 4
                    || token.equals("g") && newGoers.size() < 6;
            } else {
                String want = ITEMS.get(item.get(0))[item.size() - 1];
                if (want.equals(";")) {
                    stands = token.equals(";");
                } else if (want.equals("R")) {
                    stands = token.matches("[a-h]{1,6}");
                } else {
                    String[] ends = want.equals("D") ? new String[] {"0", String.valueOf(newDrives.size() - 1)} : want.split("-");
                    if (want.equals("D") && newDrives.isEmpty()) ends = new String[] {"1", "0"};
                    stands = token.matches("0|[1-9][0-9]?") && in(Integer.parseInt(token), Integer.parseInt(ends[0]), Integer.parseInt(ends[1]));
                }
            }
            if (!stands) return -10 - m.start();
            item.add(token);
            if (token.equals(";")) {
                items++;
                switch (item.get(0)) {
                    case "w" -> newWords.add(new Word(item.get(2), number(item, 1)));
                    case "d" -> newDrives.add(number(item, 1));
                    default -> newGoers.add(new Goer(number(item, 1), number(item, 2), number(item, 3), number(item, 4)));
                }
                item.clear();
            }
        }
        if (!item.isEmpty()) return -10 - text.length();
        words = newWords;
        goers = newGoers;
        drives = newDrives.size();
        now = new State(new ArrayList<>(), new ArrayList<>(), 0);
        for (int n : newDrives) {
            now.boards.add(".".repeat(n));
            now.trodden.add(new TreeSet<>());
        }
        past.clear();
        Arrays.fill(images, null);
        text = "";
        return items;
    }

    private static int number(List<String> item, int i) {
        return Integer.parseInt(item.get(i));
    }

    int word(int w, int what) {
        if (noWord(w) || !in(what, 0, 3)) return -1;
        if (what == 0) return words.get(w).row.length();
        if (what == 1) return words.get(w).said;
        int longest = 0;
        for (Word other : words) longest = Math.max(longest, other.row.length());
        int fewest = -9;
        int near = -9;
        for (int bits = 0; bits < 1 << longest; bits++) {
            TreeSet<Integer> cells = new TreeSet<>();
            for (int c = 0; c < longest; c++) if ((bits >> c & 1) == 1) cells.add(c);
            for (int v = 0; v < words.size(); v++) {
                if (v == w || !alike(laid(w, longest), laid(v, longest), cells)) continue;
                if (fewest < 0 || cells.size() < fewest || cells.size() == fewest && v < near) {
                    fewest = cells.size();
                    near = v;
                }
            }
        }
        return what == 2 ? fewest : near;
    }

    private String laid(int w, int n) {
        String row = words.get(w).row;
        return row + ".".repeat(n - row.length());
    }

    private static boolean alike(String one, String two, TreeSet<Integer> hidden) {
        for (int c = 0; c < one.length(); c++) {
            if (!hidden.contains(c) && one.charAt(c) != two.charAt(c)) return false;
        }
        return true;
    }

    int letter(int w, int k) {
        if (noWord(w) || !in(k, 0, words.get(w).row.length() - 1)) return -1;
        return words.get(w).row.charAt(k) - 'a';
    }

    private TreeSet<Integer> fits(int d) {
        TreeSet<Integer> fit = new TreeSet<>();
        for (int w = 0; w < words.size(); w++) {
            if (words.get(w).row.length() <= longOf(d) && alike(now.boards.get(d), laid(w, longOf(d)), now.trodden.get(d))) fit.add(w);
        }
        return fit;
    }

    private int weight(TreeSet<Integer> some) {
        int weight = 0;
        for (int w : some) weight += words.get(w).said;
        return weight;
    }

    private TreeSet<Integer> tread(int d, int first, int stride) {
        TreeSet<Integer> cells = new TreeSet<>();
        for (int n = 0; n < 8; n++) if (first + n * stride < longOf(d)) cells.add(first + n * stride);
        return cells;
    }

    int drive(int d, int what) {
        if (noDrive(d) || !in(what, 0, 5)) return -1;
        int bits = 0;
        List<Integer> tracks = new ArrayList<>();
        for (int n = 1; n <= 79; n++) {
            if (in(n % 10, 1, 4) && tread(d, n / 10, n % 10).equals(now.trodden.get(d))) tracks.add(n);
        }
        switch (what) {
            case 0: return longOf(d);
            case 1: for (int c : now.trodden.get(d)) bits += 1 << c; return bits;
            case 2: for (int w : fits(d)) bits += 1 << w; return bits;
            case 3: return look(d);
            case 4: return tracks.size();
            default: return tracks.isEmpty() ? -9 : tracks.get(0);
        }
    }

    private int look(int d) {
        TreeSet<Integer> fit = fits(d);
        if (fit.size() < 2) return -9;
        int best = -9;
        int least = Integer.MAX_VALUE;
        for (int c : now.trodden.get(d)) {
            Map<Character, Integer> weights = new HashMap<>();
            for (int w : fit) weights.merge(laid(w, longOf(d)).charAt(c), words.get(w).said, Integer::sum);
            int most = 0;
            for (int weight : weights.values()) most = Math.max(most, weight);
            if (most < least) {
                least = most;
                best = c;
            }
        }
        return best;
    }

    int cell(int d, int x) {
        if (noDrive(d) || !in(x, 0, longOf(d) - 1)) return -1;
        if (now.trodden.get(d).contains(x)) return -9;
        char there = now.boards.get(d).charAt(x);
        return there == '.' ? 8 : there - 'a';
    }

    int goer(int g, int what) {
        if (!in(g, 0, goers.size() - 1) || !in(what, 0, 3)) return -1;
        Goer it = goers.get(g);
        return new int[] {it.hour, it.drive, it.first, it.stride}[what];
    }

    private void remember() {
        past.push(now.copy());
        if (past.size() > 10) past.removeLast();
    }

    int rakes(int d, int w) {
        if (noDrive(d) || noWord(w)) return -1;
        if (words.get(w).row.length() > longOf(d)) return -2;
        remember();
        now.boards.set(d, laid(w, longOf(d)));
        now.trodden.get(d).clear();
        return (int) now.boards.get(d).chars().filter(c -> c == '.').count();
    }

    int treads(int d, int first, int stride) {
        if (noDrive(d) || !in(first, 0, 7) || !in(stride, 1, 4)) return -1;
        remember();
        int before = now.trodden.get(d).size();
        now.trodden.get(d).addAll(tread(d, first, stride));
        return now.trodden.get(d).size() - before;
    }

    int cat(int d, int x) {
        if (noDrive(d) || !in(x, 0, longOf(d) - 1)) return -1;
        if (now.trodden.get(d).contains(x)) return -2;
        remember();
        now.trodden.get(d).add(x);
        return now.trodden.get(d).size();
    }

    int rains() {
        remember();
        int washed = 0;
        for (int d = 0; d < drives; d++) {
            String board = now.boards.get(d);
            washed += board.replaceAll("[ae.]", "").length();
            now.boards.set(d, board.replaceAll("[^ae]", "."));
        }
        return washed;
    }

    int hour() {
        if (now.hour == 24) return -2;
        remember();
        now = new State(now.boards, now.trodden, now.hour + 1);
        int came = 0;
        for (Goer it : goers) {
            if (it.hour == now.hour) {
                now.trodden.get(it.drive).addAll(tread(it.drive, it.first, it.stride));
                came++;
            }
        }
        return came;
    }

    int undo() {
        if (past.isEmpty()) return -2;
        now = past.pop();
        return past.size();
    }

    private static int part(long upper, long lower, int what) {
        BigInteger u = BigInteger.valueOf(upper);
        BigInteger l = BigInteger.valueOf(lower);
        return (what == 0 ? u : l).divide(u.gcd(l)).intValueExact();
    }

    int likely(int d, int w, int what) {
        if (noDrive(d) || noWord(w) || !in(what, 0, 1)) return -1;
        TreeSet<Integer> fit = fits(d);
        return fit.contains(w) ? part(words.get(w).said, weight(fit), what) : what;
    }

    private TreeSet<Integer> readable(int d) {
        TreeSet<Integer> cells = new TreeSet<>();
        for (int x = 0; x < longOf(d); x++) if (in(cell(d, x), 0, 7)) cells.add(x);
        return cells;
    }

    int spoil(int d, int stride, int what) {
        if (noDrive(d) || !in(stride, 1, 4) || !in(what, 0, 1)) return -1;
        int best = 100;
        for (int first = 0; first < stride; first++) {
            TreeSet<Integer> spoilt = tread(d, first, stride);
            spoilt.retainAll(readable(d));
            best = Math.min(best, 10 * spoilt.size() + first);
        }
        return what == 0 ? best % 10 : best / 10;
    }

    int round(int k) {
        if (!in(k, -1, 3)) return -1;
        String best = "";
        List<String> orders = new ArrayList<>(List.of(""));
        for (int n = 0; n < 4; n++) {
            List<String> longer = new ArrayList<>();
            for (String order : orders) {
                for (int d = 0; d < drives; d++) longer.add(order + d);
            }
            orders = longer;
            for (String order : orders) {
                if (order.length() > best.length() && isRound(order)) best = order;
            }
        }
        return k < 0 ? best.length() : k < best.length() ? best.charAt(k) - '0' : -9;
    }

    private boolean isRound(String order) {
        int time = now.hour;
        for (int i = 0; i < order.length(); i++) {
            int d = order.charAt(i) - '0';
            if (noDrive(d) || order.indexOf(order.charAt(i)) != i || readable(d).isEmpty()) return false;
            if (i > 0) time += Math.abs(d - (order.charAt(i - 1) - '0'));
            time++;
            for (Goer it : goers) if (it.drive == d && in(it.hour, now.hour, time)) return false;
        }
        return true;
    }

    int odds(int d, int x, int what) {
        if (noDrive(d) || !in(x, 0, 10) || !in(what, 0, 1)) return -1;
        List<Goer> later = new ArrayList<>();
        for (Goer it : goers) if (it.drive == d && it.hour > now.hour) later.add(it);
        long upper = 0;
        long lower = 1;
        for (int i = 0; i < later.size(); i++) lower *= 10;
        for (int come = 0; come < 1 << later.size(); come++) {
            long chance = 1;
            TreeSet<Integer> spoilt = new TreeSet<>();
            for (int i = 0; i < later.size(); i++) {
                boolean comes = (come >> i & 1) == 1;
                chance *= comes ? x : 10 - x;
                if (comes) spoilt.addAll(tread(d, later.get(i).first, later.get(i).stride));
            }
            spoilt.retainAll(readable(d));
            if (spoilt.isEmpty()) upper += chance;
        }
        return part(upper, lower, what);
    }

    private int gives(int kind, Word it, int w) {
        switch (kind) {
            case 0:
                trace += 1;
                return it.row.length();
            case 1:
                trace += 10;
                return gives(0, it, w) + it.said;
            case 2:
                trace += 100;
                return gives(0, it, w) - it.row.replaceAll("[^ae]", "").length();
            case 3:
                trace += 1000;
                return 2 * gives(1, it, w);
            case 4:
                trace += 10000;
                return gives(2, it, w) + w;
            default:
                trace += 100000;
                return gives(0, it, w) + now.hour;
        }
    }

    int rate(int kind, int w) {
        return !in(kind, 0, 5) || noWord(w) ? -1000000 : gives(kind, words.get(w), w);
    }

    int keep(int image) {
        if (!in(image, 0, 1)) return -1;
        images[image] = now.copy();
        return now.hour;
    }

    int back(int image) {
        if (!in(image, 0, 1)) return -1;
        if (images[image] == null) return -2;
        now = images[image].copy();
        past.clear();
        return now.hour;
    }

    int count(int what) {
        return in(what, 0, 5) ? new int[] {words.size(), drives, goers.size(), now.hour, past.size(), text.length()}[what] : -1;
    }

    long trace() {
        return trace;
    }
}
