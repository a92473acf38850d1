/**
 * Whose hand wrote: texts by writers that are known and by some that are not, weighed by features
 * (small marks, words, lengths, endings) and compared by how far their rates of these are.
 *
 * All rows that a call needs are made with the object and used again, as all calls of a run share
 * one room; only text() and feature() make objects, fourteen and twelve at most.
 */
public final class WhoseHand {
    public static final int BAD = -1, FULL = -2, FINDING = -3, STATE = -4, NONE = -9;

    private static final int NOTHING = 1, BEYOND = 2, UNLIKE = 3, NOUGHT = 4, SIZE = 5;
    private static final int FINDING_KINDS = 5;

    private static final int SHEETS = 4, SIGNS = 200, WORDS = SIGNS / 2;
    private static final int TEXTS = 14, FEATURES = 12, WRITERS = 6, LAST_YEAR = 9999;
    private static final int MOST_TRIALS = 200, MOST_RUN = 60, MOST_CHANGE = 10000000;
    private static final int MOST_WAYS = 3432;

    private static final int TEXT = 0, KNOWN = 1, OLD = 2, JOINT = 3;
    private static final int BY_SIGN = 0, BY_LENGTH = 1, BY_ENDING = 2, BY_WORD = 3;
    private static final int LONG_WORD = 12;
    private static final int BLANK = 32, MISSING = -1, NO_TEXT = -1, EVERY_FEATURE = -1;
    private static final int TOLD_OF_TEXT = 5, TOLD_OF_JOIN = 3, COUNTED = 4;

    private final Sheet[] sheets = new Sheet[SHEETS];
    private final Text[] texts = new Text[TEXTS];
    private final Measure measure = new Measure();
    private final Hands hands = new Hands();
    private final Parting parting = new Parting();
    private final Tree tree = new Tree();
    private final Shuffles shuffles = new Shuffles();
    private final Prose firstWord = new Prose();
    private final int[] rates = new int[FEATURES];
    private final int[] otherRates = new int[FEATURES];
    private final int[] findingCounts = new int[FINDING_KINDS + 1];
    private int textsEver;
    private int latestFinding;
    private long latestAsked;

    public WhoseHand() {
        for (int s = 0; s < sheets.length; s++) sheets[s] = new Sheet();
    }

    // ---- 1 sheets, texts, features

    public int sheet(int s, int n) {
        Sheet sheet = sheetAt(s);
        if (sheet == null || n > SIGNS) return BAD;
        if (n < 0) return found(SIZE);
        sheet.makeBlank(n);
        return n;
    }

    public int lay(int s, int i, int c) {
        Sheet sheet = sheetAt(s);
        if (sheet == null) return BAD;
        if (sheet.isMissing()) return found(NOTHING);
        if (!sheet.holds(i, 1)) return found(BEYOND);
        int was = sheet.signAt(i);
        sheet.put(i, c);
        return was + 1000;
    }

    public int tear(int s) {
        Sheet sheet = sheetAt(s);
        if (sheet == null) return BAD;
        if (sheet.isMissing()) return found(NOTHING);
        sheet.remove();
        return 1;
    }

    public int copy(int s, int i, int to, int j, int n) {
        Sheet sheet = sheetAt(s);
        Sheet target = sheetAt(to);
        if (sheet == null || target == null) return BAD;
        if (n < 0) return found(SIZE);
        if (sheet.isMissing() || target.isMissing()) return found(NOTHING);
        if (!sheet.holds(i, n) || !target.holds(j, n)) return found(BEYOND);
        target.bring(sheet, i, j, n);
        return 1;
    }

    public int text(int kind, int s, int writer, int year) {
        Sheet sheet = sheetAt(s);
        if (sheet == null || kind < TEXT || kind > JOINT) return BAD;
        boolean byWriter = kind == KNOWN || kind == OLD;
        if (byWriter && !isWriter(writer)) return BAD;
        if (kind == OLD && (year < 0 || year > LAST_YEAR)) return BAD;
        if (textsEver >= texts.length) return FULL;
        if (sheet.isMissing()) return found(NOTHING);
        Text made = new Text(kind, byWriter ? writer : NONE, kind == OLD ? year : NONE);
        made.prose.read(sheet);
        measure.tallyText(made);
        texts[textsEver] = made;
        return textsEver++;
    }

    public int told(int text, int what) {
        Text asked = textAt(text);
        if (asked == null || what < 0 || what >= TOLD_OF_TEXT) return BAD;
        if (asked.withdrawn) return found(NOTHING);
        return asked.tell(what);
    }

    public int mark(int text, int kind) {
        Text asked = textAt(text);
        if (asked == null || kind < KNOWN || kind > JOINT) return BAD;
        if (asked.withdrawn) return found(NOTHING);
        if (kind == KNOWN && asked.isKnown()) return asked.writer;
        if (kind == OLD && asked.kind == OLD) return asked.year;
        if (kind == JOINT && asked.kind == JOINT) return asked.prose.words;
        return found(UNLIKE);
    }

    public int withdraw(int text) {
        Text asked = textAt(text);
        if (asked == null) return BAD;
        if (asked.withdrawn) return found(NOTHING);
        asked.withdrawn = true;
        return 1;
    }

    public int feature(int sort, int v) {
        if (!isFeatureValue(sort, v)) return BAD;
        if (measure.isFull()) return FULL;
        if (sort == BY_WORD) {
            Sheet sheet = sheetAt(v);
            if (sheet == null || sheet.isMissing()) return found(NOTHING);
            firstWord.read(sheet);
            if (firstWord.words == 0) return found(SIZE);
        }
        Feature made = new Feature(sort, smallSign(v));
        if (sort == BY_WORD) made.learnWord(firstWord, 0);
        return measure.take(made, texts);
    }

    public int counts(int feature, int text) {
        Text asked = textAt(text);
        if (asked == null || !measure.has(feature)) return BAD;
        if (asked.withdrawn) return found(NOTHING);
        return asked.tally.countOf(feature);
    }

    public int rate(int feature, int text) {
        Text asked = textAt(text);
        if (asked == null || !measure.has(feature)) return BAD;
        if (asked.withdrawn) return found(NOTHING);
        return measure.rateIn(asked.tally, feature);
    }

    public int hand(int feature, int writer) {
        if (!measure.has(feature) || !isWriter(writer)) return BAD;
        hands.readWithout(NO_TEXT, texts, measure);
        if (!hands.has(writer)) return found(NOUGHT);
        return hands.rateOf(writer, feature);
    }

    public int mean(int text) {
        Text asked = textAt(text);
        if (asked == null) return BAD;
        if (asked.withdrawn) return found(NOTHING);
        if (asked.prose.words == 0) return found(NOUGHT);
        return asked.prose.letters / asked.prose.words;
    }

    // ---- 2 farness

    public int sort(int sort) {
        if (sort < 0 || sort > 1) return BAD;
        int was = measure.farnessSort;
        measure.farnessSort = sort;
        return was;
    }

    public int far(int a, int b) {
        Text first = textAt(a);
        Text second = textAt(b);
        if (first == null || second == null) return BAD;
        if (first.withdrawn || second.withdrawn) return found(NOTHING);
        measure.readRates(first.tally, rates);
        measure.readRates(second.tally, otherRates);
        return measure.farness(rates, otherRates, EVERY_FEATURE);
    }

    public int from(int text, int writer) {
        Text asked = textAt(text);
        if (asked == null || !isWriter(writer)) return BAD;
        if (asked.withdrawn) return found(NOTHING);
        readHandsFor(text, asked);
        if (!hands.has(writer)) return found(NOUGHT);
        return hands.farnessOf(writer, rates, measure, EVERY_FEATURE);
    }

    public int nearest(int text) {
        Text asked = textAt(text);
        if (asked == null) return BAD;
        if (asked.withdrawn) return found(NOTHING);
        return nearestWriter(text, asked);
    }

    public int place(int text, int writer) {
        Text asked = textAt(text);
        if (asked == null || !isWriter(writer)) return BAD;
        if (asked.withdrawn) return found(NOTHING);
        readHandsFor(text, asked);
        if (!hands.has(writer)) return found(NOUGHT);
        return hands.placeOf(writer, rates, measure);
    }

    public int trial(int what) {
        if (what < 0 || what > 2) return BAD;
        int n = 0;
        for (int t = 0; t < texts.length; t++) {
            Text text = texts[t];
            if (text == null || !text.isInHand()) continue;
            if (outcome(nearestWriter(t, text), text.writer) == what) n++;
        }
        return n;
    }

    public int taken(int a, int b) {
        if (!isWriter(a) || !isWriter(b)) return BAD;
        int n = 0;
        for (int t = 0; t < texts.length; t++) {
            Text text = texts[t];
            if (text != null && text.isBy(a) && nearestWriter(t, text) == b) n++;
        }
        return n;
    }

    public int impostors(int text, int writer, int n, long seed) {
        Text asked = textAt(text);
        if (asked == null || !isWriter(writer) || n < 1 || n > MOST_TRIALS) return BAD;
        if (measure.size == 0) return STATE;
        if (asked.withdrawn) return found(NOTHING);
        readHandsFor(text, asked);
        if (!hands.has(writer)) return found(NOUGHT);
        int won = 0;
        long s = seed;
        for (int i = 0; i < n; i++) {
            s = s * 1103515245L + 12345L;
            int which = measure.featuresOf(s >>> 16);
            if (hands.nearestTo(rates, measure, which) == writer) won++;
        }
        return won;
    }

    // ---- 3 along a text, trees, shuffles

    public int part(int text, int k, int a, int b, int c) {
        Text asked = textAt(text);
        if (asked == null || k < 1 || k > MOST_RUN || c < 0 || c > MOST_CHANGE) return BAD;
        if (!isWriter(a) || !isWriter(b) || a == b) return BAD;
        if (asked.withdrawn) return found(NOTHING);
        hands.readWithout(text, texts, measure);
        if (!hands.has(a) || !hands.has(b)) return found(NOUGHT);
        parting.priceWindows(asked.prose, k, a, b, hands, measure);
        parting.priceTails(c);
        int changes = parting.choose(a, b, c);
        latestAsked = parting.leastPrice();
        return changes;
    }

    public int window(int i) {
        return parting.ownerOf(i);
    }

    public int tree() {
        return tree.grow(texts, measure);
    }

    public int join(int i, int what) {
        if (what < 0 || what >= TOLD_OF_JOIN) return BAD;
        return tree.tell(i, what);
    }

    public int shuffle(int feature, int a, int b) {
        if (!measure.has(feature) || !isWriter(a) || !isWriter(b) || a == b) return BAD;
        shuffles.clear();
        int byFirst = addToShuffles(feature, a);
        int bySecond = addToShuffles(feature, b);
        if (byFirst == 0 || bySecond == 0) return found(NOUGHT);
        int asFar = shuffles.countAsFar(byFirst);
        latestAsked = shuffles.ways;
        return asFar;
    }

    // ---- 4 what is told

    public long asked() {
        return latestAsked;
    }

    public int count(int what) {
        if (what < 0 || what >= COUNTED) return BAD;
        return countedOf(what);
    }

    public int finding() {
        return latestFinding;
    }

    public int findings(int f) {
        if (f < 1 || f >= findingCounts.length) return BAD;
        return findingCounts[f];
    }

    public long digest() {
        long h = 17;
        for (int what = 0; what < COUNTED; what++) h = 31 * h + countedOf(what);
        for (int t = 0; t < texts.length; t++) {
            if (texts[t] != null) h = digestText(h, texts[t]);
        }
        for (int s = 0; s < sheets.length; s++) h = sheets[s].digestAfter(h);
        return h;
    }

    // ---- inside

    private int found(int finding) {
        if (finding >= 1 && finding < findingCounts.length) {
            latestFinding = finding;
            findingCounts[finding]++;
        }
        return FINDING;
    }

    private Sheet sheetAt(int s) {
        return s >= 0 && s < sheets.length ? sheets[s] : null;
    }

    private Text textAt(int t) {
        return t >= 0 && t < texts.length ? texts[t] : null;
    }

    private int countedOf(int what) {
        switch (what) {
            case 0: return textsEver;
            case 1: return textsThere();
            case 2: return measure.size;
            default: return measure.farnessSort;
        }
    }

    private int textsThere() {
        int n = 0;
        for (int t = 0; t < texts.length; t++) {
            if (texts[t] != null && !texts[t].withdrawn) n++;
        }
        return n;
    }

    private long digestText(long before, Text text) {
        if (text.withdrawn) return 31 * before - 1;
        long h = before;
        for (int what = 0; what < TOLD_OF_TEXT; what++) h = 31 * h + text.tell(what);
        for (int f = 0; f < measure.size; f++) h = 31 * h + text.tally.countOf(f);
        return h;
    }

    /** Leaves the text's rates in the row of that name, and the hands without it in hands. */
    private void readHandsFor(int t, Text text) {
        hands.readWithout(t, texts, measure);
        measure.readRates(text.tally, rates);
    }

    private int nearestWriter(int t, Text text) {
        readHandsFor(t, text);
        return hands.nearestTo(rates, measure, EVERY_FEATURE);
    }

    private int addToShuffles(int feature, int writer) {
        int n = 0;
        for (int t = 0; t < texts.length; t++) {
            Text text = texts[t];
            if (text == null || !text.isBy(writer)) continue;
            shuffles.add(text.tally.countOf(feature), measure.wholeOf(text.tally, feature));
            n++;
        }
        return n;
    }

    /** How the trial ends for a text that was given to a writer, by the numbers that trial() takes. */
    private static int outcome(int given, int writer) {
        if (given == NONE) return 2;
        return given == writer ? 0 : 1;
    }

    private static boolean isWriter(int writer) {
        return writer >= 0 && writer < WRITERS;
    }

    private static boolean isFeatureValue(int sort, int v) {
        switch (sort) {
            case BY_SIGN: return isLetterOrMark(v);
            case BY_LENGTH: return v >= 1 && v <= LONG_WORD;
            case BY_ENDING: return isLetter(v);
            case BY_WORD: return v >= 0 && v < SHEETS;
            default: return false;
        }
    }

    private static boolean isLetter(int c) {
        return c >= 'a' && c <= 'z' || c >= 'A' && c <= 'Z';
    }

    private static boolean isLetterOrMark(int c) {
        return c >= 33 && c <= 126 && c != '[' && c != ']';
    }

    private static int smallSign(int c) {
        return c >= 'A' && c <= 'Z' ? c - 'A' + 'a' : c;
    }

    private static int thousandths(int count, int whole) {
        return whole <= 0 ? 0 : 1000 * count / whole;
    }

    /** A row of signs that can be missing. */
    private static final class Sheet {
        private final byte[] signs = new byte[SIGNS];
        private int size = MISSING;

        boolean isMissing() {
            return size < 0;
        }

        void makeBlank(int n) {
            for (int i = 0; i < n && i < signs.length; i++) signs[i] = BLANK;
            size = n;
        }

        void remove() {
            size = MISSING;
        }

        /** The sum is a long one: place and number can both be near the greatest int. */
        boolean holds(int i, int n) {
            return i >= 0 && n >= 0 && (long) i + n <= size;
        }

        int signAt(int i) {
            return i >= 0 && i < size && i < signs.length ? signs[i] : BLANK;
        }

        void put(int i, int c) {
            if (i >= 0 && i < size && i < signs.length) signs[i] = (byte) c;
        }

        void bring(Sheet source, int i, int j, int n) {
            if (source.holds(i, n) && holds(j, n)) System.arraycopy(source.signs, i, signs, j, n);
        }

        long digestAfter(long before) {
            long h = 31 * before + size;
            for (int i = 0; i < size && i < signs.length; i++) h = 31 * h + signs[i];
            return h;
        }
    }

    /** A sheet's signs as they were, blanks for its quotes, small letters for great ones, in words. */
    private static final class Prose {
        private final byte[] signs = new byte[SIGNS];
        private final int[] starts = new int[WORDS];
        private final int[] lengths = new int[WORDS];
        private int size;
        private int words;
        private int letters;
        private int lettersAndMarks;
        private int quotes;

        void read(Sheet sheet) {
            size = Math.min(sheet.size, signs.length);
            cutQuotes(sheet);
            findWords();
        }

        private void cutQuotes(Sheet sheet) {
            boolean quoted = false;
            quotes = 0;
            for (int i = 0; i < size && i < signs.length; i++) {
                int c = sheet.signAt(i);
                boolean opens = !quoted && c == '[';
                signs[i] = (byte) (quoted || opens ? BLANK : smallSign(c));
                if (opens) quotes++;
                quoted = opens || quoted && c != ']';
            }
        }

        private void findWords() {
            words = 0;
            letters = 0;
            lettersAndMarks = 0;
            boolean inWord = false;
            for (int i = 0; i < size && i < signs.length; i++) {
                if (isLetterOrMark(signs[i])) lettersAndMarks++;
                boolean letter = isLetter(signs[i]);
                if (letter) {
                    letters++;
                    if (!inWord) beginWord(i);
                    lengthenWord();
                }
                inWord = letter;
            }
        }

        private void beginWord(int i) {
            if (words >= starts.length) return;
            starts[words] = i;
            lengths[words] = 0;
            words++;
        }

        private void lengthenWord() {
            if (words > 0 && words <= lengths.length) lengths[words - 1]++;
        }

        int lengthOf(int word) {
            return word >= 0 && word < words && word < lengths.length ? lengths[word] : 0;
        }

        /** A blank where the word has no such letter. */
        int letterOf(int word, int i) {
            if (word < 0 || word >= words || word >= WORDS) return BLANK;
            if (i < 0 || i >= lengths[word]) return BLANK;
            int at = starts[word] + i;
            return at >= 0 && at < signs.length ? signs[at] : BLANK;
        }

        int countSign(int c) {
            int n = 0;
            for (int i = 0; i < size && i < signs.length; i++) {
                if (signs[i] == c) n++;
            }
            return n;
        }
    }

    /** One thing that is counted in texts. */
    private static final class Feature {
        private final int sort;
        private final int value;
        private final byte[] letters = new byte[LONG_WORD];
        private int length;

        Feature(int sort, int value) {
            this.sort = sort;
            this.value = value;
        }

        void learnWord(Prose prose, int word) {
            length = prose.lengthOf(word);
            for (int i = 0; i < letters.length; i++) letters[i] = (byte) prose.letterOf(word, i);
        }

        int countIn(Prose prose) {
            return sort == BY_SIGN ? prose.countSign(value) : countInWords(prose, 0, prose.words);
        }

        int countInWords(Prose prose, int first, int end) {
            int n = 0;
            for (int w = first; w < end; w++) {
                if (fits(prose, w)) n++;
            }
            return n;
        }

        private boolean fits(Prose prose, int word) {
            int n = prose.lengthOf(word);
            switch (sort) {
                case BY_LENGTH: return Math.min(n, LONG_WORD) == value;
                case BY_ENDING: return prose.letterOf(word, n - 1) == value;
                case BY_WORD: return n == length && hasLetters(prose, word);
                default: return false;
            }
        }

        private boolean hasLetters(Prose prose, int word) {
            for (int i = 0; i < letters.length; i++) {
                if (prose.letterOf(word, i) != letters[i]) return false;
            }
            return true;
        }
    }

    /** What a set of texts, or a run of words, has of each feature, and of what these are counts of. */
    private static final class Tally {
        private final int[] counts = new int[FEATURES];
        private int words;
        private int lettersAndMarks;

        void clear() {
            for (int f = 0; f < counts.length; f++) counts[f] = 0;
            words = 0;
            lettersAndMarks = 0;
        }

        void add(Tally other) {
            for (int f = 0; f < counts.length; f++) counts[f] += other.counts[f];
            words += other.words;
            lettersAndMarks += other.lettersAndMarks;
        }

        int countOf(int f) {
            return f >= 0 && f < counts.length ? counts[f] : 0;
        }

        void setCount(int f, int n) {
            if (f >= 0 && f < counts.length) counts[f] = n;
        }
    }

    /** A text: what it says, by whom, and its tally. */
    private static final class Text {
        private final int kind;
        private final int writer;
        private final int year;
        private final Prose prose = new Prose();
        private final Tally tally = new Tally();
        private boolean withdrawn;

        Text(int kind, int writer, int year) {
            this.kind = kind;
            this.writer = writer;
            this.year = year;
        }

        boolean isKnown() {
            return kind == KNOWN || kind == OLD;
        }

        boolean isInHand() {
            return isKnown() && !withdrawn;
        }

        boolean isBy(int someone) {
            return isInHand() && writer == someone;
        }

        int tell(int what) {
            switch (what) {
                case 0: return kind;
                case 1: return writer;
                case 2: return prose.words;
                case 3: return prose.lettersAndMarks;
                default: return prose.quotes;
            }
        }
    }

    /** The features, and how far two rows of their rates are from one another. */
    private static final class Measure {
        private final Feature[] features = new Feature[FEATURES];
        private final boolean[] bySign = new boolean[FEATURES];
        private int size;
        private int farnessSort;

        boolean isFull() {
            return size >= features.length;
        }

        boolean has(int f) {
            return f >= 0 && f < size;
        }

        private Feature featureAt(int f) {
            return f >= 0 && f < features.length ? features[f] : null;
        }

        /** Counts the new feature in all texts at once, so that no later call has to look at signs. */
        int take(Feature feature, Text[] texts) {
            if (isFull()) return FULL;
            features[size] = feature;
            bySign[size] = feature.sort == BY_SIGN;
            for (int t = 0; t < texts.length; t++) {
                Text text = texts[t];
                if (text != null) text.tally.setCount(size, feature.countIn(text.prose));
            }
            return size++;
        }

        void tallyText(Text text) {
            text.tally.words = text.prose.words;
            text.tally.lettersAndMarks = text.prose.lettersAndMarks;
            for (int f = 0; f < size; f++) {
                Feature feature = featureAt(f);
                if (feature != null) text.tally.setCount(f, feature.countIn(text.prose));
            }
        }

        /** Leaves signs alone: where windows are reckoned only the features of words count. */
        void tallyWords(Prose prose, int first, int end, Tally tally) {
            tally.clear();
            tally.words = end - first;
            for (int f = 0; f < size; f++) {
                Feature feature = featureAt(f);
                if (feature != null) tally.setCount(f, feature.countInWords(prose, first, end));
            }
        }

        int wholeOf(Tally tally, int f) {
            return f >= 0 && f < bySign.length && bySign[f] ? tally.lettersAndMarks : tally.words;
        }

        int rateIn(Tally tally, int f) {
            return thousandths(tally.countOf(f), wholeOf(tally, f));
        }

        void readRates(Tally tally, int[] row) {
            for (int f = 0; f < size && f < row.length; f++) row[f] = rateIn(tally, f);
        }

        /** Which features a trial's bits choose, as bits; every one if they choose none. */
        int featuresOf(long bits) {
            int chosen = (int) bits & (1 << size) - 1;
            return chosen == 0 ? EVERY_FEATURE : chosen;
        }

        int wordFeatures() {
            int which = 0;
            for (int f = 0; f < size && f < bySign.length; f++) {
                if (!bySign[f]) which |= 1 << f;
            }
            return which;
        }

        int farness(int[] row, int[] other, int which) {
            int sum = 0;
            for (int f = 0; f < size && f < row.length && f < other.length; f++) {
                if ((which >>> f & 1) == 0) continue;
                int apart = Math.abs(row[f] - other[f]);
                sum += farnessSort == 0 ? apart : apart * apart;
            }
            return sum;
        }
    }

    /** The rates of each writer's hand without a text. */
    private static final class Hands {
        private final int[][] rates = new int[WRITERS][FEATURES];
        private final boolean[] there = new boolean[WRITERS];
        private final Tally tally = new Tally();

        void readWithout(int text, Text[] texts, Measure measure) {
            for (int w = 0; w < WRITERS; w++) {
                tally.clear();
                there[w] = false;
                for (int t = 0; t < texts.length; t++) {
                    if (t == text || texts[t] == null || !texts[t].isBy(w)) continue;
                    tally.add(texts[t].tally);
                    there[w] = true;
                }
                measure.readRates(tally, rates[w]);
            }
        }

        boolean has(int w) {
            return w >= 0 && w < there.length && there[w];
        }

        int rateOf(int w, int f) {
            return has(w) && f >= 0 && f < FEATURES ? rates[w][f] : 0;
        }

        int farnessOf(int w, int[] row, Measure measure, int which) {
            return has(w) ? measure.farness(row, rates[w], which) : 0;
        }

        int nearestTo(int[] row, Measure measure, int which) {
            int nearest = NONE;
            int least = 0;
            for (int w = 0; w < WRITERS; w++) {
                if (!has(w)) continue;
                int farness = farnessOf(w, row, measure, which);
                if (nearest != NONE && farness >= least) continue;
                nearest = w;
                least = farness;
            }
            return nearest;
        }

        int placeOf(int writer, int[] row, Measure measure) {
            int own = farnessOf(writer, row, measure, EVERY_FEATURE);
            int place = 0;
            for (int w = 0; w < WRITERS; w++) {
                if (!has(w) || w == writer) continue;
                int farness = farnessOf(w, row, measure, EVERY_FEATURE);
                if (farness < own || farness == own && w < writer) place++;
            }
            return place;
        }
    }

    /** The latest parting: which of two writers each window of a text is by. */
    private static final class Parting {
        private final int[] firstPrices = new int[WORDS];
        private final int[] secondPrices = new int[WORDS];
        // The least price of all windows from one on, if that one is by the first (second) writer.
        private final long[] firstTails = new long[WORDS + 1];
        private final long[] secondTails = new long[WORDS + 1];
        private final int[] owners = new int[WORDS];
        private final int[] row = new int[FEATURES];
        private final Tally tally = new Tally();
        private int windows;

        void priceWindows(Prose prose, int k, int a, int b, Hands hands, Measure measure) {
            int which = measure.wordFeatures();
            windows = 0;
            for (int first = 0; first < prose.words && windows < WORDS; first += k) {
                measure.tallyWords(prose, first, Math.min(first + k, prose.words), tally);
                measure.readRates(tally, row);
                firstPrices[windows] = hands.farnessOf(a, row, measure, which);
                secondPrices[windows] = hands.farnessOf(b, row, measure, which);
                windows++;
            }
        }

        /** From the last window back, so that the choice can go from the first one on. */
        void priceTails(int c) {
            firstTails[windows] = 0;
            secondTails[windows] = 0;
            for (int w = windows - 1; w >= 0; w--) {
                long first = firstTails[w + 1];
                long second = secondTails[w + 1];
                // After the last window nothing follows, so no change is paid there either.
                firstTails[w] = firstPrices[w] + Math.min(first, second + c);
                secondTails[w] = secondPrices[w] + Math.min(second, first + c);
            }
        }

        int choose(int a, int b, int c) {
            int changes = 0;
            for (int w = 0; w < windows && w < owners.length; w++) {
                int before = w == 0 ? NONE : owners[w - 1];
                long first = firstTails[w] + (before == b ? c : 0);
                long second = secondTails[w] + (before == a ? c : 0);
                owners[w] = first <= second ? a : b;
                if (w > 0 && owners[w] != before) changes++;
            }
            return changes;
        }

        long leastPrice() {
            return Math.min(firstTails[0], secondTails[0]);
        }

        int ownerOf(int w) {
            return w >= 0 && w < windows && w < owners.length ? owners[w] : NONE;
        }
    }

    /** The joins of the latest tree; a group stands at the number of its least text. */
    private static final class Tree {
        private final Tally[] groups = new Tally[TEXTS];
        private final int[][] rates = new int[TEXTS][FEATURES];
        private final boolean[] there = new boolean[TEXTS];
        private final int[] lesser = new int[TEXTS];
        private final int[] other = new int[TEXTS];
        private final int[] farnesses = new int[TEXTS];
        private int joins;

        Tree() {
            for (int g = 0; g < groups.length; g++) groups[g] = new Tally();
        }

        int grow(Text[] texts, Measure measure) {
            for (int t = 0; t < TEXTS && t < texts.length; t++) begin(t, texts[t], measure);
            joins = 0;
            for (int i = 1; i < TEXTS; i++) {
                if (findNearestPair(measure)) joinPair(measure);
            }
            return joins;
        }

        private void begin(int g, Text text, Measure measure) {
            there[g] = text != null && !text.withdrawn;
            groups[g].clear();
            if (text != null && there[g]) groups[g].add(text.tally);
            measure.readRates(groups[g], rates[g]);
        }

        /** Leaves the pair in the rows, behind the joins that are. */
        private boolean findNearestPair(Measure measure) {
            boolean some = false;
            for (int g = 0; g < TEXTS; g++) {
                for (int h = g + 1; h < TEXTS && there[g]; h++) {
                    if (!there[h]) continue;
                    int farness = measure.farness(rates[g], rates[h], EVERY_FEATURE);
                    if (some && farness >= farnesses[joins]) continue;
                    some = true;
                    lesser[joins] = g;
                    other[joins] = h;
                    farnesses[joins] = farness;
                }
            }
            return some;
        }

        private void joinPair(Measure measure) {
            int g = lesser[joins];
            int h = other[joins];
            groups[g].add(groups[h]);
            measure.readRates(groups[g], rates[g]);
            there[h] = false;
            joins++;
        }

        int tell(int i, int what) {
            if (i < 0 || i >= joins || i >= TEXTS) return NONE;
            switch (what) {
                case 0: return lesser[i];
                case 1: return other[i];
                default: return farnesses[i];
            }
        }
    }

    /** All ways to take some of two writers' texts, one way after another. */
    private static final class Shuffles {
        private final int[] counts = new int[TEXTS];
        private final int[] wholes = new int[TEXTS];
        private final int[] taken = new int[TEXTS];
        // Of the first i texts taken: kept, as most ways differ from the one ahead in their last texts.
        private final int[] countsOfFirst = new int[TEXTS + 1];
        private final int[] wholesOfFirst = new int[TEXTS + 1];
        private int texts;
        private int takes;
        private int allCounts;
        private int allWholes;
        private int ways;

        void clear() {
            texts = 0;
            allCounts = 0;
            allWholes = 0;
        }

        void add(int count, int whole) {
            if (texts >= TEXTS) return;
            counts[texts] = count;
            wholes[texts] = whole;
            allCounts += count;
            allWholes += whole;
            texts++;
        }

        /** The first writer's texts were added first: so the first way is that of the two writers. */
        int countAsFar(int byFirst) {
            takes = Math.max(0, Math.min(byFirst, texts));
            ways = 0;
            int asFar = 0;
            takeOn(0, 0);
            int own = difference();
            boolean more = true;
            while (more && ways < MOST_WAYS) {
                ways++;
                if (difference() >= own) asFar++;
                more = takeNext();
            }
            return asFar;
        }

        private boolean takeNext() {
            for (int i = takes - 1; i >= 0; i--) {
                if (taken[i] < texts - takes + i) {
                    takeOn(i, taken[i] + 1);
                    return true;
                }
            }
            return false;
        }

        /** From the i-th text taken on: a text and those that follow it. */
        private void takeOn(int i, int text) {
            int t = text;
            for (int j = i; j < takes && j < TEXTS && t < texts; j++) {
                taken[j] = t;
                countsOfFirst[j + 1] = countsOfFirst[j] + counts[t];
                wholesOfFirst[j + 1] = wholesOfFirst[j] + wholes[t];
                t++;
            }
        }

        private int difference() {
            int count = countsOfFirst[takes];
            int whole = wholesOfFirst[takes];
            return Math.abs(thousandths(count, whole) - thousandths(allCounts - count, allWholes - whole));
        }
    }
}
