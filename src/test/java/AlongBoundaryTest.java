/** One test for each boundary that the document names of partings, trees and shuffles: promises 23 to 28. */
public final class AlongBoundaryTest {
    private static final int MOST = Boundaries.MOST, LEAST = Boundaries.LEAST;
    private static final int BAD = WhoseHand.BAD, FINDING = WhoseHand.FINDING, NONE = WhoseHand.NONE;
    private static final int NOTHING = 1, NOUGHT = 4;
    private static final int[] NO_TEXTS = {-1, 6, 13, 14, LEAST, MOST};
    private static final int[] NO_FEATURES = {-1, 4, 11, 12, LEAST, MOST};
    private static final int[] NO_WRITERS = {-1, 6, LEAST, MOST};
    private static final Boundaries b = new Boundaries("AlongBoundaryTest");

    public static void main(String[] args) {
        part();
        partOfEqualPrice();
        partOfManyWindows();
        partReckoned();
        partRefused();
        window();
        tree();
        treeOfLikePairs();
        join();
        shuffle();
        shuffleOfMany();
        shuffleRefused();
        asked();
        b.end();
    }

    private static void dueWindows(WhoseHand x, Boundaries.Due due, int... writers) {
        for (int i = 0; i < writers.length; i++) due.is(x.window(i), writers[i]);
        due.is(x.window(writers.length), NONE);
    }

    private static void duePart(WhoseHand x, Boundaries.Due due, int k, int a, int b, int c, int changes, long price) {
        due.is(x.part(0, k, a, b, c), changes);
        due.is(x.asked(), price);
    }

    /** TEXT 0 is "a bb ccc"; of its words' FEATURES the HANDS of 0 and 1 have the RATES 333, 0, 0 and 500, 500, 0. */
    private static void part() {
        b.promise("promise 23, part", Worlds::ordinary);
        b.holds("k 1: each WORD is a WINDOW", (x, due) -> {
            duePart(x, due, 1, 0, 1, 0, 1, 333 + 667 + 1000);
            dueWindows(x, due, 0, 0, 1);
        });
        b.holds("the last may be shorter", (x, due) -> {
            duePart(x, due, 2, 0, 1, 0, 1, 167 + 1000);
            dueWindows(x, due, 0, 1);
        });
        b.holds("k as many WORDS as there are: one WINDOW", (x, due) -> {
            duePart(x, due, 3, 0, 1, 0, 0, 333);
            dueWindows(x, due, 0);
        });
        b.holds("k one more than there are: one shorter WINDOW", (x, due) -> {
            duePart(x, due, 4, 0, 1, 0, 0, 333);
            dueWindows(x, due, 0);
        });
        b.holds("k 60", (x, due) -> {
            duePart(x, due, 60, 1, 0, 0, 0, 333);
            dueWindows(x, due, 0);
        });
        b.holds("the last is as long as the others: the next k", (x, due) -> {
            int t = Checks.unknown(x, "a bb ccc a bb ccc");
            due.is(x.part(t, 3, 0, 1, 0), 0);
            due.is(x.asked(), 666);
            dueWindows(x, due, 0, 0);
        });
        b.holds("no WORDS: no WINDOW, no change, no price", (x, due) -> {
            due.is(x.part(5, 1, 0, 1, 10), 0);
            due.is(x.asked(), 0);
            dueWindows(x, due);
        });
        b.holds("c 0: a change for nothing", (x, due) -> duePart(x, due, 2, 0, 1, 0, 1, 1167));
        b.holds("c by one less than what a change saves", (x, due) -> {
            duePart(x, due, 2, 0, 1, 332, 1, 1499);
            dueWindows(x, due, 0, 1);
        });
        b.holds("c by one more than what a change saves", (x, due) -> {
            duePart(x, due, 2, 0, 1, 334, 0, 1500);
            dueWindows(x, due, 0, 0);
        });
        b.holds("c for each WINDOW that is by another one than that ahead of it: none is ahead of the first", (x, due) -> {
            duePart(x, due, 3, 1, 0, 10000000, 0, 333);
            dueWindows(x, due, 0);
        });
        b.holds("c 10000000", (x, due) -> duePart(x, due, 2, 0, 1, 10000000, 0, 1500));
        b.holds("WRITER 5", (x, due) -> {
            Checks.known(x, 5, "ccc");
            duePart(x, due, 1, 0, 5, 0, 1, 333 + 667 + 0);
            dueWindows(x, due, 0, 0, 5);
        });
    }

    private static void partOfEqualPrice() {
        b.promise("promise 23, part: of these that which has a at the first WINDOW at which they differ", Worlds::ordinary);
        b.holds("c is what a change saves: a is ahead", (x, due) -> {
            duePart(x, due, 2, 0, 1, 333, 0, 1500);
            dueWindows(x, due, 0, 0);
        });
        b.holds("c is what a change saves: a is the other one", (x, due) -> {
            duePart(x, due, 2, 1, 0, 333, 0, 1500);
            dueWindows(x, due, 1, 1);
        });
        b.holds("HANDS alike: all by a, the lesser", (x, due) -> {
            Checks.known(x, 5, "a a bb");
            duePart(x, due, 1, 0, 5, 0, 0, 333 + 667 + 1333);
            dueWindows(x, due, 0, 0, 0);
        });
        b.holds("HANDS alike: all by a, the greater", (x, due) -> {
            Checks.known(x, 5, "a a bb");
            duePart(x, due, 1, 5, 0, 0, 0, 333 + 667 + 1333);
            dueWindows(x, due, 5, 5, 5);
        });
        b.holds("a WINDOW as far from both between two by b: c 0", (x, due) -> {
            WhoseHand y = oneBetweenTwo();
            duePart(y, due, 1, 0, 1, 0, 2, 2000);
            dueWindows(y, due, 1, 0, 1);
        });
        b.holds("a WINDOW as far from both between two by b: c 1", (x, due) -> {
            WhoseHand y = oneBetweenTwo();
            duePart(y, due, 1, 0, 1, 1, 0, 2000);
            dueWindows(y, due, 1, 1, 1);
        });
        b.holds("the change comes as late as can be from a to b", (x, due) -> {
            WhoseHand y = oneBetweenTwo();
            Checks.write(y, 0, "a ccc ccc bb");
            due.is(y.part(y.text(0, 0, 0, 0), 1, 0, 1, 5), 1);
            dueWindows(y, due, 0, 0, 0, 1);
        });
        b.holds("the change comes as soon as can be from b to a", (x, due) -> {
            WhoseHand y = oneBetweenTwo();
            Checks.write(y, 0, "a ccc ccc bb");
            due.is(y.part(y.text(0, 0, 0, 0), 1, 1, 0, 5), 1);
            dueWindows(y, due, 0, 1, 1, 1);
        });
    }

    /** The WORD between is 2000 from each hand, which are not from their own words. */
    private static WhoseHand oneBetweenTwo() {
        WhoseHand x = new WhoseHand();
        x.feature(1, 1);
        x.feature(1, 2);
        x.feature(1, 3);
        Checks.unknown(x, "bb ccc bb");
        Checks.known(x, 0, "a");
        Checks.known(x, 1, "bb");
        return x;
    }

    private static WhoseHand ofTwelveLengths() {
        WhoseHand x = new WhoseHand();
        for (int f = 0; f < 12; f++) x.feature(1, 1 + f / 6);
        x.sort(1);
        Checks.known(x, 4, "a");
        Checks.known(x, 5, "bb");
        return x;
    }

    private static void partOfManyWindows() {
        b.promise("promise 23, part", Worlds::ordinary);
        b.holds("100 WINDOWS, each as far as can be from both", (x, due) -> {
            WhoseHand y = new WhoseHand();
            for (int f = 0; f < 12; f++) y.feature(1, 1);
            y.sort(1);
            Checks.known(y, 4, "bb");
            Checks.known(y, 5, "ccc");
            int t = Checks.unknown(y, "a ".repeat(100));
            due.is(y.part(t, 1, 5, 4, 10000000), 0);
            due.is(y.asked(), 1200000000L);
            due.is(y.window(0), 5);
            due.is(y.window(99), 5);
            due.is(y.window(100), NONE);
        });
        b.holds("100 WINDOWS by k 1, two by k 60, the last of 40", (x, due) -> {
            WhoseHand y = ofTwelveLengths();
            int t = Checks.unknown(y, "a ".repeat(60) + "b ".repeat(40));
            due.is(y.part(t, 1, 4, 5, 0), 0);
            due.is(y.window(99), 4);
            due.is(y.part(t, 60, 4, 5, 0), 0);
            dueWindows(y, due, 4, 4);
            due.is(y.part(t, 59, 4, 5, 0), 0);
            dueWindows(y, due, 4, 4);
            due.is(y.part(t, 50, 4, 5, 0), 0);
            dueWindows(y, due, 4, 4);
            due.is(y.part(t, 49, 4, 5, 0), 0);
            dueWindows(y, due, 4, 4, 4);
        });
        b.holds("a change at each of 79 WINDOWS", (x, due) -> {
            WhoseHand y = ofTwelveLengths();
            int t = Checks.unknown(y, "a bb ".repeat(40));
            due.is(y.part(t, 1, 4, 5, 5999999), 79);
            due.is(y.asked(), 79 * 5999999L);
            due.is(y.window(78), 4);
            due.is(y.window(79), 5);
        });
        b.holds("one WINDOW by another costs more than two changes, by one", (x, due) -> {
            WhoseHand y = ofTwelveLengths();
            int t = Checks.unknown(y, "a a bb a a");
            due.is(y.part(t, 1, 4, 5, 5999999), 2);
            due.is(y.asked(), 11999998);
            due.is(y.part(t, 1, 4, 5, 6000000), 0);
            due.is(y.asked(), 12000000);
            due.is(y.part(t, 1, 5, 4, 6000000), 2);
            dueWindows(y, due, 4, 4, 5, 4, 4);
        });
    }

    private static void partReckoned() {
        b.promise("promise 23, part", Worlds::ordinary);
        b.holds("only WORDS' FEATURES count there, not those of sort 0", (x, due) -> {
            x.feature(0, 'a');
            Checks.known(x, 0, ",,,,,,,,");
            Checks.known(x, 1, "!!!!!!!!");
            duePart(x, due, 3, 0, 1, 0, 0, 333);
        });
        b.holds("FEATURES of sort 0 alone: a for nothing", (x, due) -> {
            WhoseHand y = new WhoseHand();
            y.feature(0, 'a');
            Checks.unknown(y, "a b");
            Checks.known(y, 2, "b");
            Checks.known(y, 3, "a");
            duePart(y, due, 1, 2, 3, 0, 0, 0);
            dueWindows(y, due, 2, 2);
            duePart(y, due, 1, 3, 2, 0, 0, 0);
            dueWindows(y, due, 3, 3);
        });
        b.holds("no FEATURES: a for nothing", (x, due) -> {
            WhoseHand y = new WhoseHand();
            Checks.unknown(y, "a b");
            Checks.known(y, 2, "b");
            Checks.known(y, 3, "a");
            duePart(y, due, 1, 3, 2, 7, 0, 0);
            dueWindows(y, due, 3, 3);
        });
        b.holds("all is reckoned of these: RATES are of the WINDOW's WORDS", (x, due) -> {
            due.is(x.part(Checks.unknown(x, "bb [a a] !!! 1"), 1, 0, 1, 0), 0);
            due.is(x.asked(), 667);
        });
        b.holds("FARNESS by sort 1", (x, due) -> {
            x.sort(1);
            duePart(x, due, 3, 0, 1, 0, 0, 2 * 167 * 167);
            dueWindows(x, due, 1);
        });
        b.holds("from the HAND without the TEXT", (x, due) -> {
            Checks.known(x, 0, "bb bb");
            due.is(x.part(1, 3, 0, 1, 0), 0);
            due.is(x.asked(), 667);
            dueWindows(x, due, 0);
            due.is(x.part(1, 1, 1, 0, 0), 1);
            dueWindows(x, due, 1, 1, 0);
            due.is(x.asked(), 1000 + 1000 + 0);
        });
        b.holds("of a JOINT TEXT", (x, due) -> {
            due.is(x.part(3, 1, 0, 1, 0), 1);
            dueWindows(x, due, 0, 0, 1);
        });
    }

    private static void partRefused() {
        b.promise("promise 23, part", Worlds::ordinary);
        int[] badRuns = {0, -1, 61, LEAST, MOST};
        int[] badPrices = {-1, 10000001, LEAST, MOST};
        for (int n : NO_TEXTS) b.bad("BAD: TEXT " + n, x -> x.part(n, 1, 0, 1, 0));
        for (int n : badRuns) b.bad("BAD: k (1 .. 60): " + n, x -> x.part(0, n, 0, 1, 0));
        for (int n : badPrices) b.bad("BAD: c (0 .. 10000000): " + n, x -> x.part(0, 1, 0, 1, n));
        for (int n : NO_WRITERS) {
            b.bad("BAD: WRITER a " + n, x -> x.part(0, 1, n, 1, 0));
            b.bad("BAD: WRITER b " + n, x -> x.part(0, 1, 0, n, 0));
        }
        for (int w = 0; w < 6; w++) {
            int writer = w;
            b.bad("BAD: also twice the same: " + w, x -> x.part(0, 1, writer, writer, 0));
        }
        b.bad("BAD ahead of NOTHING", x -> x.part(4, 61, 0, 1, 0));
        b.bad("BAD ahead of NOTHING: twice the same", x -> x.part(4, 1, 1, 1, 0));
        b.bad("BAD ahead of NOUGHT", x -> x.part(0, 1, 2, 3, -1));
        b.nothing("NOTHING: WITHDRAWN", x -> x.part(4, 1, 0, 1, 0));
        b.nothing("NOTHING ahead of NOUGHT", x -> x.part(4, 1, 2, 3, 0));
        b.nought("NOUGHT: one has no HAND: a", x -> x.part(0, 1, 2, 1, 0));
        b.nought("NOUGHT: one has no HAND: b", x -> x.part(0, 1, 0, 5, 0));
        b.nought("NOUGHT: both have no HAND", x -> x.part(0, 1, 3, 4, 0));
        b.nought("NOUGHT: one has no HAND without the TEXT", x -> x.part(1, 1, 0, 1, 0));
        b.nought("NOUGHT: also of a TEXT without WORDS", x -> x.part(5, 1, 0, 2, 0));
    }

    private static void window() {
        b.promise("promise 24, window", Worlds::ordinary);
        b.answers("Whose WINDOW 0 is", 0, x -> x.window(0));
        b.answers("Whose the last WINDOW is", 1, x -> x.window(2));
        b.none("NONE: the one behind the last", x -> x.window(3));
        int[] none = {-1, 100, 200, LEAST, MOST};
        for (int n : none) b.none("NONE: none such: " + n, x -> x.window(n));
        b.holds("in the latest part(): of fewer WINDOWS", (x, due) -> {
            x.part(0, 3, 0, 1, 0);
            dueWindows(x, due, 0);
        });
        b.holds("in the latest part(): of no WINDOWS", (x, due) -> {
            x.part(5, 3, 0, 1, 0);
            dueWindows(x, due);
        });
        b.holds("that was not refused: BAD, NOTHING, NOUGHT", (x, due) -> {
            due.is(x.part(0, 0, 0, 1, 0), BAD);
            due.is(x.part(4, 3, 0, 1, 0), FINDING);
            due.is(x.part(0, 3, 0, 2, 0), FINDING);
            dueWindows(x, due, 0, 0, 1);
        });
        b.holds("other calls leave it", (x, due) -> {
            x.sort(1);
            x.feature(1, 1);
            Checks.known(x, 0, "ccc");
            x.tree();
            x.shuffle(1, 0, 1);
            dueWindows(x, due, 0, 0, 1);
        });
        b.holds("in the latest part(): TEXTS that are WITHDRAWN later leave it", (x, due) -> {
            for (int t = 0; t < 4; t++) due.is(x.withdraw(t), 1);
            due.is(x.part(0, 1, 0, 1, 10), FINDING);
            dueWindows(x, due, 0, 0, 1);
        });
    }

    private static void dueJoin(WhoseHand x, Boundaries.Due due, int i, int lesser, int other, int farness) {
        due.is(x.join(i, 0), lesser);
        due.is(x.join(i, 1), other);
        due.is(x.join(i, 2), farness);
    }

    private static void tree() {
        b.promise("promise 25, tree", Worlds::empty);
        b.answers("no TEXT: no join", 0, x -> x.tree());
        b.answers("one TEXT: no join", 0, x -> Checks.unknown(x, "a") + x.tree());
        b.holds("two TEXTS: one join", (x, due) -> {
            x.feature(1, 1);
            Checks.unknown(x, "a");
            Checks.known(x, 0, "bb");
            due.is(x.tree(), 1);
            dueJoin(x, due, 0, 0, 1, 1000);
        });
        b.holds("fourteen TEXTS: thirteen joins", (x, due) -> {
            for (int t = 0; t < 14; t++) Checks.unknown(x, "a");
            due.is(x.tree(), 13);
            for (int i = 0; i < 13; i++) dueJoin(x, due, i, 0, i + 1, 0);
            due.is(x.join(13, 0), NONE);
        });
        b.holds("TEXTS that are there: none that is WITHDRAWN", (x, due) -> {
            for (int t = 0; t < 4; t++) Checks.unknown(x, "a");
            x.withdraw(0);
            x.withdraw(3);
            due.is(x.tree(), 1);
            dueJoin(x, due, 0, 1, 2, 0);
        });
        b.holds("TEXTS that are there: all WITHDRAWN", (x, due) -> {
            for (int t = 0; t < 4; t++) Checks.unknown(x, "a");
            for (int t = 0; t < 4; t++) x.withdraw(t);
            due.is(x.tree(), 0);
        });
        b.promise("promise 25, tree", Worlds::ordinary);
        b.answers("how many joins", 4, x -> x.tree());
        b.holds("groups have the RATES of their TEXTS together", (x, due) -> {
            x.tree();
            dueJoin(x, due, 0, 0, 3, 142);
            dueJoin(x, due, 1, 1, 5, 333);
            dueJoin(x, due, 2, 0, 1, 76 + 333);
            dueJoin(x, due, 3, 0, 2, 55 + 167 + 278);
        });
        b.holds("by sort 1", (x, due) -> {
            x.sort(1);
            due.is(x.tree(), 4);
            dueJoin(x, due, 0, 0, 3, 142 * 142);
        });
        b.holds("of each KIND", (x, due) -> {
            x.withdraw(5);
            due.is(x.tree(), 3);
        });
    }

    private static void treeOfLikePairs() {
        b.promise("promise 25, tree", Worlds::empty);
        b.holds("of alike pairs the least first one", (x, due) -> {
            x.feature(1, 1);
            for (String signs : "a bb bb a".split(" ")) Checks.unknown(x, signs);
            x.tree();
            dueJoin(x, due, 0, 0, 3, 0);
            dueJoin(x, due, 1, 1, 2, 0);
            dueJoin(x, due, 2, 0, 1, 1000);
        });
        b.holds("then the least second one", (x, due) -> {
            x.feature(1, 1);
            for (String signs : "bb a a a".split(" ")) Checks.unknown(x, signs);
            x.tree();
            dueJoin(x, due, 0, 1, 2, 0);
            dueJoin(x, due, 1, 1, 3, 0);
            dueJoin(x, due, 2, 0, 1, 1000);
        });
        b.holds("a group by its least TEXT: it keeps the lesser name", (x, due) -> {
            x.feature(1, 1);
            x.feature(1, 2);
            for (String signs : "ccc a a bb".split(" ")) Checks.unknown(x, signs);
            x.tree();
            dueJoin(x, due, 0, 1, 2, 0);
            dueJoin(x, due, 1, 0, 1, 1000);
            dueJoin(x, due, 2, 0, 3, 666 + 1000);
        });
        b.holds("the last two of fourteen are the least far", (x, due) -> {
            for (int f = 0; f < 12; f++) x.feature(0, 'a' + f);
            for (int t = 0; t < 12; t++) Checks.unknown(x, String.valueOf((char) ('a' + t)));
            Checks.unknown(x, "z");
            Checks.unknown(x, "z");
            due.is(x.tree(), 13);
            dueJoin(x, due, 0, 12, 13, 0);
            dueJoin(x, due, 1, 0, 12, 1000);
        });
    }

    private static void join() {
        b.promise("promise 26, join", Worlds::ordinary);
        b.answers("0 the lesser group: of the first join", 0, x -> x.join(0, 0));
        b.answers("1 the other one: of the first join", 3, x -> x.join(0, 1));
        b.answers("2 their FARNESS: of the first join", 142, x -> x.join(0, 2));
        b.answers("0 the lesser group: of the last join", 0, x -> x.join(3, 0));
        b.answers("1 the other one: of the last join", 2, x -> x.join(3, 1));
        b.answers("2 their FARNESS: of the last join", 500, x -> x.join(3, 2));
        int[] none = {4, -1, 13, 14, LEAST, MOST};
        for (int n : none) {
            for (int what = 0; what < 3; what++) {
                int told = what;
                b.none("NONE: none such: " + n + ", what " + what, x -> x.join(n, told));
            }
        }
        int[] bad = {-1, 3, LEAST, MOST};
        for (int n : bad) {
            b.bad("BAD: what " + n, x -> x.join(0, n));
            b.bad("BAD what ahead of NONE: " + n, x -> x.join(4, n));
        }
        b.holds("of the latest tree(): of fewer joins", (x, due) -> {
            for (int t = 1; t < 4; t++) x.withdraw(t);
            due.is(x.tree(), 1);
            dueJoin(x, due, 0, 0, 5, 666);
            due.is(x.join(1, 0), NONE);
        });
        b.holds("of the latest tree(): other calls leave it", (x, due) -> {
            x.sort(1);
            x.feature(1, 1);
            Checks.unknown(x, "a");
            x.part(0, 1, 0, 1, 0);
            dueJoin(x, due, 0, 0, 3, 142);
            due.is(x.join(4, 0), NONE);
        });
        b.holds("of the latest tree(): TEXTS that are WITHDRAWN later leave it", (x, due) -> {
            for (int t = 0; t < 4; t++) due.is(x.withdraw(t), 1);
            dueJoin(x, due, 0, 0, 3, 142);
            dueJoin(x, due, 3, 0, 2, 500);
            due.is(x.join(4, 0), NONE);
        });
    }

    private static void dueShuffle(WhoseHand x, Boundaries.Due due, int first, int second, int asFar, long ways) {
        due.is(x.shuffle(0, first, second), asFar);
        due.is(x.asked(), ways);
    }

    private static WhoseHand byTwo(String[] first, String[] second) {
        WhoseHand x = new WhoseHand();
        x.feature(1, 1);
        for (String signs : first) Checks.known(x, 0, signs);
        for (String signs : second) Checks.known(x, 5, signs);
        return x;
    }

    private static String[] of(String... texts) {
        return texts;
    }

    private static void shuffle() {
        b.promise("promise 27, shuffle", Worlds::ordinary);
        b.holds("one of two: both ways differ by as much", (x, due) -> dueShuffle(byTwo(of("a"), of("bb")), due, 0, 5, 2, 2));
        b.holds("one of three, by more than the others", (x, due) -> {
            WhoseHand y = byTwo(of("a"), of("bb", "bb"));
            dueShuffle(y, due, 0, 5, 1, 3);
            dueShuffle(y, due, 5, 0, 1, 3);
        });
        b.holds("one of three, by less than one of the others", (x, due) -> {
            WhoseHand y = byTwo(of("bb"), of("a", "bb"));
            dueShuffle(y, due, 0, 5, 3, 3);
            dueShuffle(y, due, 5, 0, 3, 3);
        });
        b.holds("two of four: as much the other way round", (x, due) ->
            dueShuffle(byTwo(of("a", "a"), of("bb", "bb")), due, 0, 5, 2, 6));
        b.holds("HANDS alike: all ways", (x, due) -> dueShuffle(byTwo(of("a", "bb"), of("a", "bb")), due, 0, 5, 6, 6));
        b.holds("RATES are of the TEXTS together, not of each", (x, due) -> {
            WhoseHand y = byTwo(of("a", "bb bb bb"), of("a bb"));
            dueShuffle(y, due, 0, 5, 3, 3);
            WhoseHand z = byTwo(of("a"), of("a bb bb bb", "bb"));
            dueShuffle(z, due, 0, 5, 1, 3);
        });
        b.holds("a set without WORDS has RATE 0", (x, due) -> dueShuffle(byTwo(of("1"), of("a", "a")), due, 0, 5, 1, 3));
        b.holds("by a FEATURE of sort 0, of letters and MARKS", (x, due) -> {
            due.is(x.shuffle(0, 0, 1), 2);
            Checks.known(x, 0, ",");
            due.is(x.shuffle(0, 0, 1), 2);
            due.is(x.asked(), 3);
        });
        b.holds("FARNESS by sort 1 changes nothing here", (x, due) -> {
            WhoseHand y = byTwo(of("a"), of("bb", "bb"));
            y.sort(1);
            dueShuffle(y, due, 0, 5, 1, 3);
        });
        b.holds("their KNOWN TEXTS: OLD ones, too", (x, due) -> {
            WhoseHand y = byTwo(of("a"), of("bb"));
            Worlds.old(y, 5, 1, "bb");
            dueShuffle(y, due, 0, 5, 1, 3);
        });
        b.holds("their KNOWN TEXTS: no other KIND, no other WRITER", (x, due) -> {
            WhoseHand y = byTwo(of("a"), of("bb"));
            Checks.unknown(y, "a");
            Worlds.joint(y, "a");
            Checks.known(y, 3, "a");
            dueShuffle(y, due, 0, 5, 2, 2);
        });
    }

    private static void shuffleOfMany() {
        b.promise("promise 27, shuffle", Worlds::ordinary);
        long ways = 1;
        for (int i = 1; i < 14; i++) {
            ways = ways * (15 - i) / i;
            int m = i;
            long all = ways;
            b.holds("all ways to take " + m + " of 14: of like TEXTS", (x, due) -> {
                WhoseHand y = new WhoseHand();
                y.feature(1, 1);
                for (int t = 0; t < 14; t++) Checks.known(y, t < m ? 2 : 1, "a");
                due.is(y.shuffle(0, 2, 1), all);
                due.is(y.asked(), all);
            });
            b.holds("all ways to take " + m + " of 14: of TEXTS as unlike as can be", (x, due) -> {
                WhoseHand y = new WhoseHand();
                y.feature(1, 1);
                for (int t = 0; t < 14; t++) Checks.known(y, t < m ? 2 : 1, t < m ? "a" : "bb");
                due.is(y.shuffle(0, 2, 1), m == 7 ? 2 : 1);
                due.is(y.asked(), all);
            });
        }
        b.holds("the TEXTS of both mixed in time", (x, due) -> {
            WhoseHand y = new WhoseHand();
            y.feature(1, 1);
            for (int t = 0; t < 14; t++) Checks.known(y, t % 2, t % 2 == 0 ? "a" : "bb");
            due.is(y.shuffle(0, 1, 0), 2);
            due.is(y.asked(), 3432);
        });
    }

    private static void shuffleRefused() {
        b.promise("promise 27, shuffle", Worlds::ordinary);
        for (int n : NO_FEATURES) b.bad("BAD: FEATURE " + n, x -> x.shuffle(n, 0, 1));
        for (int n : NO_WRITERS) {
            b.bad("BAD: WRITER a " + n, x -> x.shuffle(0, n, 1));
            b.bad("BAD: WRITER b " + n, x -> x.shuffle(0, 0, n));
        }
        for (int w = 0; w < 6; w++) {
            int writer = w;
            b.bad("BAD: also twice the same: " + w, x -> x.shuffle(0, writer, writer));
        }
        b.bad("BAD FEATURE ahead of NOUGHT", x -> x.shuffle(4, 2, 3));
        b.nought("NOUGHT: one has no KNOWN TEXT: a", x -> x.shuffle(0, 2, 1));
        b.nought("NOUGHT: one has no KNOWN TEXT: b", x -> x.shuffle(0, 0, 5));
        b.nought("NOUGHT: both have no KNOWN TEXT", x -> x.shuffle(0, 3, 4));
        b.holds("NOUGHT: its only one is WITHDRAWN", (x, due) -> {
            x.withdraw(2);
            due.is(x.shuffle(0, 0, 1), FINDING);
            due.is(x.finding(), NOUGHT);
            due.is(x.asked(), 2010);
        });
    }

    private static void asked() {
        b.promise("promise 28, asked", Worlds::ordinary);
        b.answers("the price that the latest part() told", 2010, x -> x.asked());
        b.holds("the ways that the latest shuffle() told", (x, due) -> {
            x.shuffle(1, 0, 1);
            due.is(x.asked(), 2);
            x.part(0, 3, 0, 1, 0);
            due.is(x.asked(), 333);
        });
        b.holds("that was not refused: part()", (x, due) -> {
            due.is(x.part(0, 0, 0, 1, 0), BAD);
            due.is(x.part(4, 1, 0, 1, 0), FINDING);
            due.is(x.part(0, 1, 0, 2, 0), FINDING);
            due.is(x.asked(), 2010);
        });
        b.holds("that was not refused: shuffle()", (x, due) -> {
            due.is(x.shuffle(0, 0, 0), BAD);
            due.is(x.shuffle(0, 0, 2), FINDING);
            due.is(x.asked(), 2010);
        });
        b.holds("other calls leave it", (x, due) -> {
            x.tree();
            x.impostors(0, 0, 5, 1);
            x.trial(0);
            x.sort(1);
            x.tear(2);
            due.is(x.finding(), NOTHING);
            due.is(x.asked(), 2010);
        });
        b.holds("TEXTS that are WITHDRAWN later leave it", (x, due) -> {
            for (int t = 0; t < 4; t++) due.is(x.withdraw(t), 1);
            due.is(x.asked(), 2010);
        });
        b.promise("promise 28, asked", Worlds::empty);
        b.answers("0 before", 0, x -> x.asked());
        b.holds("0 before: after refused ones, too", (x, due) -> {
            x.feature(1, 1);
            Checks.unknown(x, "a");
            due.is(x.part(0, 1, 0, 1, 0), FINDING);
            due.is(x.shuffle(0, 0, 1), FINDING);
            due.is(x.asked(), 0);
        });
    }
}
