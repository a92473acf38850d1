import java.util.ArrayList;
import java.util.Arrays;
import java.util.List;
import java.util.TreeMap;
import java.util.TreeSet;
import java.util.function.IntPredicate;

/**
 * The document once more, in the slowest form: signs are kept as texts, and each answer is reckoned from
 * these anew. Where the program goes back from the last window, this goes forth with the parting itself.
 */
public final class Oracle {
    private static final int BAD = -1, FULL = -2, STATE = -4, NONE = -9;

    private static final class Written {
        int kind, writer, year;
        String signs;
        boolean gone;
    }

    private static final class Told {
        int sort, v;
        String word;
    }

    private final byte[][] sheets = new byte[4][];
    private final List<Written> texts = new ArrayList<>();
    private final List<Told> features = new ArrayList<>();
    private final List<Integer> found = new ArrayList<>();
    private List<int[]> joins = new ArrayList<>();
    private List<Integer> windows = new ArrayList<>();
    private int farnessSort;
    private long latest;

    // ---- what stands in a text

    private static String plain(byte[] sheet) {
        StringBuilder signs = new StringBuilder();
        for (byte b : sheet) signs.append((char) (b & 255));
        return signs.toString();
    }

    private static String cut(String signs) {
        return signs.replaceAll("(?s)\\[[^\\]]*(\\]|$)", " ");
    }

    private static int quotesIn(String signs) {
        return signs.split("(?s)\\[[^\\]]*(\\]|$)", -1).length - 1;
    }

    private static List<String> wordsIn(String signs) {
        List<String> words = new ArrayList<>();
        for (String word : cut(signs).split("[^a-zA-Z]+")) {
            if (!word.isEmpty()) words.add(word.toLowerCase(java.util.Locale.ROOT));
        }
        return words;
    }

    private static String markedIn(String signs) {
        return cut(signs).replaceAll("[^!-~]|[\\[\\]]", "").toLowerCase(java.util.Locale.ROOT);
    }

    private static boolean fits(Told f, String word) {
        if (f.sort == 1) return f.v == 12 ? word.length() >= 12 : word.length() == f.v;
        if (f.sort == 2) return word.endsWith(String.valueOf((char) f.v));
        return word.length() == f.word.length() && first12(word).equals(first12(f.word));
    }

    private static String first12(String word) {
        return word.substring(0, Math.min(12, word.length()));
    }

    private static int countIn(Told f, String signs) {
        if (f.sort == 0) return (int) markedIn(signs).chars().filter(c -> c == f.v).count();
        return (int) wordsIn(signs).stream().filter(word -> fits(f, word)).count();
    }

    private static int wholeIn(Told f, String signs) {
        return f.sort == 0 ? markedIn(signs).length() : wordsIn(signs).size();
    }

    private static int rateIn(Told f, List<String> set) {
        int count = 0;
        int whole = 0;
        for (String signs : set) {
            count += countIn(f, signs);
            whole += wholeIn(f, signs);
        }
        return whole == 0 ? 0 : 1000 * count / whole;
    }

    private long farness(List<String> set, List<String> other, IntPredicate counts) {
        long sum = 0;
        for (int f = 0; f < features.size(); f++) {
            if (!counts.test(f)) continue;
            long apart = rateIn(features.get(f), set) - rateIn(features.get(f), other);
            sum += farnessSort == 1 ? apart * apart : Math.abs(apart);
        }
        return sum;
    }

    private List<String> handOf(int writer, int without) {
        List<String> hand = new ArrayList<>();
        for (int t = 0; t < texts.size(); t++) {
            Written text = texts.get(t);
            if (t != without && !text.gone && (text.kind == 1 || text.kind == 2) && text.writer == writer) hand.add(text.signs);
        }
        return hand;
    }

    /** The writers that are asked, the nearest first. */
    private List<Integer> order(int t, IntPredicate counts) {
        TreeMap<Long, Integer> order = new TreeMap<>();
        for (int w = 0; w < 6; w++) {
            List<String> hand = handOf(w, t);
            if (!hand.isEmpty()) order.put(farness(List.of(texts.get(t).signs), hand, counts) * 6 + w, w);
        }
        return new ArrayList<>(order.values());
    }

    // ---- refusals

    private int refuse(int finding) {
        found.add(finding);
        return -3;
    }

    private static boolean out(int n, int least, int most) {
        return n < least || n > most;
    }

    private boolean noText(int t) {
        return out(t, 0, texts.size() - 1);
    }

    private boolean noFeature(int f) {
        return out(f, 0, features.size() - 1);
    }

    private static boolean noWriter(int w) {
        return out(w, 0, 5);
    }

    // ---- the face

    public int sheet(int s, int n) {
        if (out(s, 0, 3) || n > 200) return BAD;
        if (n < 0) return refuse(5);
        sheets[s] = new byte[n];
        Arrays.fill(sheets[s], (byte) ' ');
        return n;
    }

    public int lay(int s, int i, int c) {
        if (out(s, 0, 3)) return BAD;
        if (sheets[s] == null) return refuse(1);
        if (out(i, 0, sheets[s].length - 1)) return refuse(2);
        int was = sheets[s][i];
        sheets[s][i] = (byte) c;
        return was + 1000;
    }

    public int tear(int s) {
        if (out(s, 0, 3)) return BAD;
        if (sheets[s] == null) return refuse(1);
        sheets[s] = null;
        return 1;
    }

    public int copy(int s, int i, int to, int j, int n) {
        if (out(s, 0, 3) || out(to, 0, 3)) return BAD;
        if (n < 0) return refuse(5);
        if (sheets[s] == null || sheets[to] == null) return refuse(1);
        if (i < 0 || j < 0 || i > sheets[s].length - (long) n || j > sheets[to].length - (long) n) return refuse(2);
        byte[] taken = Arrays.copyOfRange(sheets[s], i, i + n);
        for (int p = 0; p < n; p++) sheets[to][j + p] = taken[p];
        return 1;
    }

    public int text(int kind, int s, int writer, int year) {
        if (out(kind, 0, 3) || out(s, 0, 3)) return BAD;
        if ((kind == 1 || kind == 2) && noWriter(writer)) return BAD;
        if (kind == 2 && out(year, 0, 9999)) return BAD;
        if (texts.size() == 14) return FULL;
        if (sheets[s] == null) return refuse(1);
        Written text = new Written();
        text.kind = kind;
        text.writer = kind == 1 || kind == 2 ? writer : NONE;
        text.year = year;
        text.signs = plain(sheets[s]);
        texts.add(text);
        return texts.size() - 1;
    }

    public int told(int text, int what) {
        if (noText(text) || out(what, 0, 4)) return BAD;
        Written asked = texts.get(text);
        if (asked.gone) return refuse(1);
        int[] all = {asked.kind, asked.writer, wordsIn(asked.signs).size(), markedIn(asked.signs).length(), quotesIn(asked.signs)};
        return all[what];
    }

    public int mark(int text, int kind) {
        if (noText(text) || out(kind, 1, 3)) return BAD;
        Written asked = texts.get(text);
        if (asked.gone) return refuse(1);
        if (asked.kind == kind || asked.kind == 2 && kind == 1) {
            return kind == 1 ? asked.writer : kind == 2 ? asked.year : wordsIn(asked.signs).size();
        }
        return refuse(3);
    }

    public int withdraw(int text) {
        if (noText(text)) return BAD;
        if (texts.get(text).gone) return refuse(1);
        texts.get(text).gone = true;
        return 1;
    }

    public int feature(int sort, int v) {
        boolean good = sort == 0 && String.valueOf((char) v).matches("[!-~&&[^\\[\\]]]") && !out(v, 33, 126)
            || sort == 1 && !out(v, 1, 12)
            || sort == 2 && !out(v, 33, 126) && Character.isLetter(v)
            || sort == 3 && !out(v, 0, 3);
        if (!good) return BAD;
        if (features.size() == 12) return FULL;
        Told made = new Told();
        made.sort = sort;
        made.v = sort == 0 || sort == 2 ? Character.toLowerCase(v) : v;
        if (sort == 3) {
            if (sheets[v] == null) return refuse(1);
            List<String> words = wordsIn(plain(sheets[v]));
            if (words.isEmpty()) return refuse(5);
            made.word = words.get(0);
        }
        features.add(made);
        return features.size() - 1;
    }

    public int counts(int feature, int text) {
        if (noFeature(feature) || noText(text)) return BAD;
        return texts.get(text).gone ? refuse(1) : countIn(features.get(feature), texts.get(text).signs);
    }

    public int rate(int feature, int text) {
        if (noFeature(feature) || noText(text)) return BAD;
        return texts.get(text).gone ? refuse(1) : rateIn(features.get(feature), List.of(texts.get(text).signs));
    }

    public int hand(int feature, int writer) {
        if (noFeature(feature) || noWriter(writer)) return BAD;
        List<String> hand = handOf(writer, -1);
        return hand.isEmpty() ? refuse(4) : rateIn(features.get(feature), hand);
    }

    public int mean(int text) {
        if (noText(text)) return BAD;
        if (texts.get(text).gone) return refuse(1);
        List<String> words = wordsIn(texts.get(text).signs);
        return words.isEmpty() ? refuse(4) : String.join("", words).length() / words.size();
    }

    public int sort(int sort) {
        if (out(sort, 0, 1)) return BAD;
        int was = farnessSort;
        farnessSort = sort;
        return was;
    }

    public int far(int a, int b) {
        if (noText(a) || noText(b)) return BAD;
        if (texts.get(a).gone || texts.get(b).gone) return refuse(1);
        return (int) farness(List.of(texts.get(a).signs), List.of(texts.get(b).signs), f -> true);
    }

    public int from(int text, int writer) {
        if (noText(text) || noWriter(writer)) return BAD;
        if (texts.get(text).gone) return refuse(1);
        List<String> hand = handOf(writer, text);
        return hand.isEmpty() ? refuse(4) : (int) farness(List.of(texts.get(text).signs), hand, f -> true);
    }

    public int nearest(int text) {
        if (noText(text)) return BAD;
        if (texts.get(text).gone) return refuse(1);
        List<Integer> order = order(text, f -> true);
        return order.isEmpty() ? NONE : order.get(0);
    }

    public int place(int text, int writer) {
        if (noText(text) || noWriter(writer)) return BAD;
        if (texts.get(text).gone) return refuse(1);
        int place = order(text, f -> true).indexOf(writer);
        return place < 0 ? refuse(4) : place;
    }

    /** Pairs of a writer and whom a text of it was given to. */
    private List<int[]> tried() {
        List<int[]> pairs = new ArrayList<>();
        for (int t = 0; t < texts.size(); t++) {
            Written text = texts.get(t);
            if (text.gone || text.kind != 1 && text.kind != 2) continue;
            List<Integer> order = order(t, f -> true);
            pairs.add(new int[] {text.writer, order.isEmpty() ? NONE : order.get(0)});
        }
        return pairs;
    }

    public int trial(int what) {
        if (out(what, 0, 2)) return BAD;
        int[] n = new int[3];
        for (int[] pair : tried()) n[pair[1] == NONE ? 2 : pair[0] == pair[1] ? 0 : 1]++;
        return n[what];
    }

    public int taken(int a, int b) {
        if (noWriter(a) || noWriter(b)) return BAD;
        return (int) tried().stream().filter(pair -> pair[0] == a && pair[1] == b).count();
    }

    public int impostors(int text, int writer, int n, long seed) {
        if (noText(text) || noWriter(writer) || out(n, 1, 200)) return BAD;
        if (features.isEmpty()) return STATE;
        if (texts.get(text).gone) return refuse(1);
        if (handOf(writer, text).isEmpty()) return refuse(4);
        TreeMap<Integer, Boolean> wonBy = new TreeMap<>();
        int won = 0;
        long s = seed;
        for (int i = 0; i < n; i++) {
            s = s * 1103515245L + 12345L;
            TreeSet<Integer> chosen = new TreeSet<>();
            for (int k = 0; k < features.size(); k++) {
                if ((s >>> 16 >>> k) % 2 != 0) chosen.add(k);
            }
            int key = chosen.stream().mapToInt(k -> 1 << k).sum();
            if (!wonBy.containsKey(key)) {
                wonBy.put(key, order(text, f -> chosen.isEmpty() || chosen.contains(f)).get(0) == writer);
            }
            if (wonBy.get(key)) won++;
        }
        return won;
    }

    public int part(int text, int k, int a, int b, int c) {
        if (noText(text) || out(k, 1, 60) || noWriter(a) || noWriter(b) || out(c, 0, 10000000) || a == b) return BAD;
        if (texts.get(text).gone) return refuse(1);
        List<String> handA = handOf(a, text);
        List<String> handB = handOf(b, text);
        if (handA.isEmpty() || handB.isEmpty()) return refuse(4);
        List<String> words = wordsIn(texts.get(text).signs);
        // The best parting up to here of those that end with a, and of those that end with b: a is told as 0.
        String[] best = {"", ""};
        long[] price = {0, 0};
        for (int at = 0; at < words.size(); at += k) {
            String window = String.join(" ", words.subList(at, Math.min(words.size(), at + k)));
            long[] own = new long[2];
            own[0] = farness(List.of(window), handA, f -> features.get(f).sort != 0);
            own[1] = farness(List.of(window), handB, f -> features.get(f).sort != 0);
            String[] nextBest = new String[2];
            long[] nextPrice = new long[2];
            for (int to = 0; to < 2; to++) {
                for (int before = 0; before < 2; before++) {
                    long sum = price[before] + own[to] + (before != to && at > 0 ? c : 0);
                    String path = best[before] + to;
                    if (nextBest[to] == null || sum < nextPrice[to] || sum == nextPrice[to] && path.compareTo(nextBest[to]) < 0) {
                        nextBest[to] = path;
                        nextPrice[to] = sum;
                    }
                }
            }
            best = nextBest;
            price = nextPrice;
        }
        int which = price[0] < price[1] || price[0] == price[1] && best[0].compareTo(best[1]) <= 0 ? 0 : 1;
        latest = price[which];
        windows = new ArrayList<>();
        for (char sign : best[which].toCharArray()) windows.add(sign == '0' ? a : b);
        int changes = 0;
        for (int i = 1; i < windows.size(); i++) changes += windows.get(i).equals(windows.get(i - 1)) ? 0 : 1;
        return changes;
    }

    public int window(int i) {
        return out(i, 0, windows.size() - 1) ? NONE : windows.get(i);
    }

    public int tree() {
        TreeMap<Integer, List<String>> groups = new TreeMap<>();
        for (int t = 0; t < texts.size(); t++) {
            if (!texts.get(t).gone) groups.put(t, new ArrayList<>(List.of(texts.get(t).signs)));
        }
        joins = new ArrayList<>();
        while (groups.size() > 1) {
            int[] best = null;
            for (int g : groups.keySet()) {
                for (int h : groups.tailMap(g, false).keySet()) {
                    int farness = (int) farness(groups.get(g), groups.get(h), f -> true);
                    if (best == null || farness < best[2]) best = new int[] {g, h, farness};
                }
            }
            groups.get(best[0]).addAll(groups.remove(best[1]));
            joins.add(best);
        }
        return joins.size();
    }

    public int join(int i, int what) {
        if (out(what, 0, 2)) return BAD;
        return out(i, 0, joins.size() - 1) ? NONE : joins.get(i)[what];
    }

    public int shuffle(int feature, int a, int b) {
        if (noFeature(feature) || noWriter(a) || noWriter(b) || a == b) return BAD;
        List<String> together = new ArrayList<>(handOf(a, -1));
        int m = together.size();
        together.addAll(handOf(b, -1));
        int n = together.size();
        if (m == 0 || m == n) return refuse(4);
        Told f = features.get(feature);
        int[] counts = together.stream().mapToInt(signs -> countIn(f, signs)).toArray();
        int[] wholes = together.stream().mapToInt(signs -> wholeIn(f, signs)).toArray();
        int own = apart(counts, wholes, (1 << m) - 1);
        int asFar = 0;
        latest = 0;
        for (int way = 0; way < 1 << n; way++) {
            if (Integer.bitCount(way) != m) continue;
            latest++;
            if (apart(counts, wholes, way) >= own) asFar++;
        }
        return asFar;
    }

    private static int apart(int[] counts, int[] wholes, int way) {
        int[] count = new int[2];
        int[] whole = new int[2];
        for (int t = 0; t < counts.length; t++) {
            count[way >> t & 1] += counts[t];
            whole[way >> t & 1] += wholes[t];
        }
        int of = whole[0] == 0 ? 0 : 1000 * count[0] / whole[0];
        int other = whole[1] == 0 ? 0 : 1000 * count[1] / whole[1];
        return Math.abs(of - other);
    }

    public long asked() {
        return latest;
    }

    public int count(int what) {
        if (out(what, 0, 3)) return BAD;
        int there = (int) texts.stream().filter(text -> !text.gone).count();
        return new int[] {texts.size(), there, features.size(), farnessSort}[what];
    }

    public int finding() {
        return found.isEmpty() ? 0 : found.get(found.size() - 1);
    }

    public int findings(int f) {
        return out(f, 1, 5) ? BAD : (int) found.stream().filter(finding -> finding == f).count();
    }

    public long digest() {
        List<Integer> all = new ArrayList<>();
        for (int what = 0; what < 4; what++) all.add(count(what));
        for (int t = 0; t < texts.size(); t++) {
            if (texts.get(t).gone) {
                all.add(-1);
                continue;
            }
            for (int what = 0; what < 5; what++) all.add(told(t, what));
            for (int f = 0; f < features.size(); f++) all.add(counts(f, t));
        }
        for (byte[] sheet : sheets) {
            all.add(sheet == null ? -1 : sheet.length);
            if (sheet != null) {
                for (byte sign : sheet) all.add((int) sign);
            }
        }
        long h = 17;
        for (int v : all) h = 31 * h + v;
        return h;
    }
}
