/** One test for each boundary that the document names of features, rates, hands and means: promises 10 to 14. */
public final class FeaturesBoundaryTest {
    private static final int MOST = Boundaries.MOST, LEAST = Boundaries.LEAST;
    private static final int BAD = WhoseHand.BAD, FULL = WhoseHand.FULL, FINDING = WhoseHand.FINDING;
    private static final Boundaries b = new Boundaries("FeaturesBoundaryTest");

    public static void main(String[] args) {
        featureOfASign();
        featureOfALength();
        featureOfAnEnding();
        featureOfAWord();
        featureOfAWordTold();
        featureFull();
        counts();
        rate();
        hand();
        mean();
        b.end();
    }

    private static boolean isLetter(int v) {
        return "abcdefghijklmnopqrstuvwxyzABCDEFGHIJKLMNOPQRSTUVWXYZ".indexOf(v) >= 0;
    }

    /** That of all v from -300 to 300 those of these signs alone are not BAD. */
    private static void dueValues(Boundaries.Due due, int sort, java.util.function.IntPredicate good) {
        for (int v = -300; v <= 300; v++) {
            WhoseHand x = new WhoseHand();
            for (int s = 0; s < 4; s++) Checks.write(x, s, "a");
            due.is(x.feature(sort, v), good.test(v) ? 0 : BAD);
            due.is(x.count(2), good.test(v) ? 1 : 0);
        }
    }

    private static void dueCounts(String sentence, int sort, int v, String signs, int counts) {
        b.holds(sentence, (x, due) -> {
            int f = x.feature(sort, v);
            due.is(x.counts(f, Checks.unknown(x, signs)), counts);
        });
    }

    private static void featureOfASign() {
        b.promise("promise 10, feature of sort 0", Worlds::ordinary);
        b.answers("its number: the next one", 4, x -> x.feature(0, 'a'));
        b.answers("a sign 33 .. 126: 33", 4, x -> x.feature(0, 33));
        b.answers("a sign 33 .. 126: 126", 4, x -> x.feature(0, 126));
        b.bad("a sign 33 .. 126: 32", x -> x.feature(0, 32));
        b.bad("a sign 33 .. 126: 127", x -> x.feature(0, 127));
        b.bad("no [", x -> x.feature(0, '['));
        b.bad("no ]", x -> x.feature(0, ']'));
        b.answers("the sign between [ and ]", 4, x -> x.feature(0, '\\'));
        b.bad("BAD: the least v", x -> x.feature(0, LEAST));
        b.bad("BAD: the greatest v", x -> x.feature(0, MOST));
        b.bad("BAD: a sign and 256", x -> x.feature(0, 256 + 'a'));
        b.holds("a sign 33 .. 126, no [, ]: no other v", (x, due) ->
            dueValues(due, 0, v -> v >= 33 && v <= 126 && v != '[' && v != ']'));
        b.bad("BAD: sort -1", x -> x.feature(-1, 1));
        b.bad("BAD: sort 4", x -> x.feature(4, 1));
        b.bad("BAD: the least sort", x -> x.feature(LEAST, 1));
        b.bad("BAD: the greatest sort", x -> x.feature(MOST, 1));
        dueCounts("the first MARK counts", 0, 33, "a ! !", 2);
        dueCounts("the last MARK counts", 0, 126, "~a~", 2);
        dueCounts("a figure counts", 0, '0', "00 1 o O 0", 3);
        dueCounts("a small letter counts great ones too", 0, 'z', "Z z", 2);
        dueCounts("a great letter counts as the small one", 0, 'Z', "Z z", 2);
        dueCounts("a great letter counts as the small one: A", 0, 'A', "A a a", 3);
        dueCounts("a MARK is no letter 32 away", 0, '@', "` @ @", 2);
        dueCounts("a MARK behind z is not that behind Z", 0, '{', "{ x", 1);
        dueCounts("200 of them", 0, '!', "!".repeat(200), 200);
        b.holds("of all letters and MARKS", (x, due) -> {
            int f = x.feature(0, '!');
            due.is(x.rate(f, Checks.unknown(x, "a! 1 [!] ]")), 333);
        });
    }

    private static void featureOfALength() {
        b.promise("promise 10, feature of sort 1", Worlds::ordinary);
        b.answers("a number 1 .. 12: 1", 4, x -> x.feature(1, 1));
        b.answers("a number 1 .. 12: 12", 4, x -> x.feature(1, 12));
        b.bad("a number 1 .. 12: 0", x -> x.feature(1, 0));
        b.bad("a number 1 .. 12: 13", x -> x.feature(1, 13));
        b.bad("BAD: the least v", x -> x.feature(1, LEAST));
        b.bad("BAD: the greatest v", x -> x.feature(1, MOST));
        b.holds("a number 1 .. 12: no other v", (x, due) -> dueValues(due, 1, v -> v >= 1 && v <= 12));
        String words = "a bb bb " + "c".repeat(11) + " " + "d".repeat(12) + " " + "e".repeat(13) + " " + "f".repeat(100);
        dueCounts("WORDS of 1 letter", 1, 1, words, 1);
        dueCounts("WORDS of 2 letters", 1, 2, words, 2);
        dueCounts("WORDS of 11 letters: not of more", 1, 11, words, 1);
        dueCounts("12: of 12 and more", 1, 12, words, 3);
        dueCounts("12: of 200", 1, 12, "g".repeat(200), 1);
        dueCounts("11: not of 200", 1, 11, "g".repeat(200), 0);
        b.holds("of all WORDS", (x, due) -> {
            int f = x.feature(1, 2);
            due.is(x.rate(f, Checks.unknown(x, "aa !!! b c [dd] ee")), 500);
        });
    }

    private static void featureOfAnEnding() {
        b.promise("promise 10, feature of sort 2", Worlds::ordinary);
        b.answers("a letter: a", 4, x -> x.feature(2, 'a'));
        b.answers("a letter: z", 4, x -> x.feature(2, 'z'));
        b.answers("a letter: A", 4, x -> x.feature(2, 'A'));
        b.answers("a letter: Z", 4, x -> x.feature(2, 'Z'));
        b.bad("a letter: not the sign ahead of a", x -> x.feature(2, '`'));
        b.bad("a letter: not the sign behind z", x -> x.feature(2, '{'));
        b.bad("a letter: not the sign ahead of A", x -> x.feature(2, '@'));
        b.bad("a letter: not the sign behind Z", x -> x.feature(2, '['));
        b.bad("a letter: not a figure", x -> x.feature(2, '1'));
        b.bad("BAD: 0", x -> x.feature(2, 0));
        b.bad("BAD: the least v", x -> x.feature(2, LEAST));
        b.bad("BAD: the greatest v", x -> x.feature(2, MOST));
        b.holds("a letter: no other v", (x, due) -> dueValues(due, 2, FeaturesBoundaryTest::isLetter));
        dueCounts("WORDS that end with the letter v", 2, 'n', "an no in. nun", 3);
        dueCounts("WORDS that end with it: of one letter", 2, 'a', "a b A", 2);
        dueCounts("WORDS that end with it: not those that begin with it", 2, 'a', "ab aab", 0);
        dueCounts("WORDS that end with it: great letters being as small ones", 2, 'B', "ab AB Ab aB", 4);
        dueCounts("WORDS that end with it: ahead of a QUOTE", 2, 'b', "ab[c] ab[", 2);
        dueCounts("WORDS that end with it: the last sign of 200", 2, 'z', "y".repeat(199) + "z", 1);
        b.holds("of all WORDS", (x, due) -> {
            int f = x.feature(2, 'e');
            due.is(x.rate(f, Checks.unknown(x, "he she it!!!")), 666);
        });
    }

    private static void featureOfAWord() {
        b.promise("promise 10, feature of sort 3", Worlds::ordinary);
        b.answers("a SHEET: 0", 4, x -> x.feature(3, 0));
        b.holds("a SHEET: 3", (x, due) -> {
            Checks.write(x, 3, "the");
            due.is(x.feature(3, 3), 4);
            due.is(x.counts(4, Checks.unknown(x, "the")), 1);
        });
        b.bad("BAD: a SHEET below 0", x -> x.feature(3, -1));
        b.bad("BAD: a SHEET above 3", x -> x.feature(3, 4));
        b.bad("BAD: the least SHEET", x -> x.feature(3, LEAST));
        b.bad("BAD: the greatest SHEET", x -> x.feature(3, MOST));
        b.holds("a SHEET: no other v", (x, due) -> dueValues(due, 3, v -> v >= 0 && v <= 3));
        b.nothing("NOTHING: the SHEET is missing", x -> x.feature(3, 2));
        b.size("SIZE: it has no WORD: no signs", x -> x.feature(3, 1));
        b.size("SIZE: it has no WORD: marks and a QUOTE", x -> x.feature(3, 3));
        b.holds("SIZE: it has no WORD: one that is not closed", (x, due) -> {
            Checks.write(x, 3, "[the");
            due.is(x.feature(3, 3), FINDING);
            due.is(x.finding(), 5);
        });
        b.holds("its first one: one behind marks", (x, due) -> {
            Checks.write(x, 3, "1. [a] ]the, end");
            due.is(x.counts(x.feature(3, 3), Checks.unknown(x, "the end a the")), 2);
        });
        b.holds("its first one: at the last sign", (x, due) -> {
            Checks.write(x, 3, " ".repeat(199) + "i");
            due.is(x.counts(x.feature(3, 3), Checks.unknown(x, "I i in")), 2);
        });
        b.holds("of all WORDS", (x, due) -> {
            Checks.write(x, 3, "it");
            due.is(x.rate(x.feature(3, 3), Checks.unknown(x, "it is, is it!")), 500);
        });
    }

    private static void dueWord(String sentence, String word, String signs, int counts) {
        b.holds(sentence, (x, due) -> {
            Checks.write(x, 0, word);
            int f = x.feature(3, 0);
            due.is(x.counts(f, Checks.unknown(x, signs)), counts);
        });
    }

    private static void featureOfAWordTold() {
        b.promise("promise 10, feature of sort 3", Worlds::ordinary);
        b.holds("as FEATURE is told: the SHEET is laid on later", (x, due) -> {
            int f = x.feature(3, 0);
            x.lay(0, 0, 'x');
            due.is(x.counts(f, Checks.unknown(x, "ab xb")), 1);
        });
        b.holds("as FEATURE is told: the SHEET is torn later", (x, due) -> {
            int f = x.feature(3, 0);
            x.tear(0);
            due.is(x.counts(f, Checks.unknown(x, "ab")), 1);
        });
        b.holds("as FEATURE is told: another one of the SHEET later", (x, due) -> {
            int f = x.feature(3, 0);
            Checks.write(x, 0, "cd");
            int g = x.feature(3, 0);
            int t = Checks.unknown(x, "ab cd cd");
            due.is(x.counts(f, t), 1);
            due.is(x.counts(g, t), 2);
        });
        dueWord("great letters being as small ones", "THE", "the The tHE", 3);
        dueWord("one letter", "a", "a aa b", 1);
        dueWord("whether they are as long: one more", "the", "the then thee", 1);
        dueWord("whether they are as long: one fewer", "then", "the then", 1);
        dueWord("the first letter is compared", "bat", "cat bat", 1);
        dueWord("the eleventh letter is compared", "abcdefghijkl", "abcdefghijxl abcdefghijkl", 1);
        dueWord("12 letters at most: the twelfth is compared", "abcdefghijkl", "abcdefghijkx abcdefghijkl", 1);
        dueWord("12 letters at most: the thirteenth is not", "abcdefghijklm", "abcdefghijklx abcdefghijklm", 2);
        dueWord("12 letters at most: and whether they are as long", "abcdefghijklm", "abcdefghijkl abcdefghijklmn", 0);
        dueWord("12 letters, and one more in the TEXT", "abcdefghijkl", "abcdefghijklm", 0);
        dueWord("12 letters at most: of 199", "b".repeat(199), "b".repeat(12) + "c".repeat(187), 1);
    }

    private static void featureFull() {
        b.promise("promise 10, feature", Worlds::ofTwelveFeatures);
        b.answers("12 at most: there are", 12, x -> x.count(2));
        b.full("FULL: the thirteenth, of sort 0", x -> x.feature(0, 'a'));
        b.full("FULL: the thirteenth, of sort 1", x -> x.feature(1, 1));
        b.full("FULL: the thirteenth, of sort 2", x -> x.feature(2, 'a'));
        b.full("FULL: the thirteenth, of sort 3", x -> x.feature(3, 0));
        b.full("FULL ahead of NOTHING", x -> x.feature(3, 2));
        b.full("FULL ahead of SIZE", x -> x.feature(3, 1));
        b.bad("BAD sort ahead of FULL", x -> x.feature(4, 1));
        b.bad("BAD sign ahead of FULL", x -> x.feature(0, 32));
        b.bad("BAD number ahead of FULL", x -> x.feature(1, 13));
        b.bad("BAD letter ahead of FULL", x -> x.feature(2, '1'));
        b.bad("BAD SHEET ahead of FULL", x -> x.feature(3, 4));
        b.promise("promise 10, feature", Worlds::empty);
        b.holds("12 at most: each one's number, like ones too", (x, due) -> {
            for (int f = 0; f < 12; f++) due.is(x.feature(1, 1 + f / 2), f);
            due.is(x.feature(1, 1), FULL);
        });
    }

    private static void counts() {
        b.promise("promise 11, counts", Worlds::ordinary);
        int[][] all = {{0, 1, 1, 0}, {0, 1, 0, 0}, {0, 1, 1, 0}, {1, 1, 1, 0}, {}, {0, 0, 0, 0}};
        for (int t = 0; t < all.length; t++) {
            for (int f = 0; f < all[t].length; f++) {
                int text = t;
                int feature = f;
                b.answers("Counts of FEATURE " + f + " in TEXT " + t, all[t][f], x -> x.counts(feature, text));
            }
        }
        b.holds("Counts of a FEATURE that was told later than the TEXT", (x, due) -> due.is(x.counts(x.feature(1, 1), 1), 2));
        b.holds("Counts of a FEATURE in a TEXT that came later", (x, due) -> due.is(x.counts(3, x.text(0, 0, 0, 0)), 2));
        b.holds("Counts of the last FEATURE in the last TEXT", (x, due) -> {
            for (int t = 6; t < 14; t++) x.text(0, 0, 0, 0);
            for (int f = 4; f < 12; f++) x.feature(0, 'b');
            due.is(x.counts(11, 13), 2);
        });
        int[] badFeatures = {-1, 4, 11, 12, LEAST, MOST};
        int[] badTexts = {-1, 6, 13, 14, LEAST, MOST};
        for (int n : badFeatures) {
            b.bad("BAD: FEATURE " + n, x -> x.counts(n, 0));
            b.bad("BAD ahead of NOTHING: FEATURE " + n, x -> x.counts(n, 4));
        }
        for (int n : badTexts) b.bad("BAD: TEXT " + n, x -> x.counts(0, n));
        b.nothing("NOTHING: WITHDRAWN", x -> x.counts(0, 4));
    }

    private static void rate() {
        b.promise("promise 12, rate", Worlds::ordinary);
        b.answers("1000 times its counts by all, cut: 1 of 7", 142, x -> x.rate(0, 3));
        b.answers("1000 times its counts by all, cut: 1 of 3", 333, x -> x.rate(1, 0));
        b.answers("1000 times its counts by all: 1 of 2", 500, x -> x.rate(1, 2));
        b.answers("1000 times its counts by all, cut: 2 of 3", 666, x -> x.rate(1, x.text(0, 0, 0, 0)));
        b.answers("none of 3", 0, x -> x.rate(3, 0));
        b.answers("none of one MARK", 0, x -> x.rate(0, 5));
        b.answers("0, if that is 0: WORDS", 0, x -> x.rate(1, 5));
        b.answers("0, if that is 0: letters and MARKS", 0, x -> x.rate(0, x.text(0, 1, 0, 0)));
        b.answers("all of 200", 1000, x -> x.rate(x.feature(0, 'q'), Checks.unknown(x, "q".repeat(200))));
        b.answers("1 of 200", 5, x -> x.rate(0, Checks.unknown(x, "," + "q".repeat(199))));
        b.answers("1 of 100 WORDS", 10, x -> x.rate(x.feature(2, 'z'), Checks.unknown(x, "z" + " a".repeat(99))));
        int[] badFeatures = {-1, 4, 11, 12, LEAST, MOST};
        int[] badTexts = {-1, 6, 13, 14, LEAST, MOST};
        for (int n : badFeatures) {
            b.bad("BAD: FEATURE " + n, x -> x.rate(n, 0));
            b.bad("BAD ahead of NOTHING: FEATURE " + n, x -> x.rate(n, 4));
        }
        for (int n : badTexts) b.bad("BAD: TEXT " + n, x -> x.rate(0, n));
        b.nothing("NOTHING: WITHDRAWN", x -> x.rate(0, 4));
    }

    private static void hand() {
        b.promise("promise 13, hand", Worlds::ordinary);
        b.answers("of one KNOWN TEXT", 333, x -> x.hand(1, 0));
        b.answers("of an OLD one, too", 500, x -> x.hand(1, 1));
        b.holds("of all its TEXTS together, not of their RATES", (x, due) -> {
            Checks.known(x, 0, "bb bb bb bb bb bb");
            due.is(x.hand(1, 0), 1000 * 7 / 9);
            Worlds.old(x, 0, 0, "1, 2, 3");
            due.is(x.hand(1, 0), 777);
            due.is(x.hand(0, 0), 1000 * 2 / (4 + 12 + 5));
        });
        b.holds("of WRITER 5", (x, due) -> {
            Checks.known(x, 5, "bb");
            due.is(x.hand(1, 5), 1000);
        });
        b.holds("without no TEXT: the first and the last of fourteen", (x, due) -> {
            WhoseHand y = new WhoseHand();
            y.feature(0, 'a');
            Checks.known(y, 3, "a");
            due.is(y.hand(0, 3), 1000);
            for (int t = 1; t < 13; t++) Checks.known(y, 3, "b");
            due.is(y.hand(0, 3), 76);
            Checks.known(y, 3, "a");
            due.is(y.hand(0, 3), 142);
        });
        b.holds("of fourteen TEXTS", (x, due) -> {
            WhoseHand y = new WhoseHand();
            y.feature(0, 'a');
            for (int t = 0; t < 14; t++) Checks.known(y, 3, "a".repeat(200));
            due.is(y.hand(0, 3), 1000);
        });
        b.answers("of a TEXT without WORDS", 0, x -> x.hand(1, writerWithoutWords(x)));
        b.nought("NOUGHT: it has none", x -> x.hand(1, 2));
        b.nought("NOUGHT: it has none: the last WRITER", x -> x.hand(1, 5));
        b.holds("NOUGHT: TEXTS and JOINT ones are by no WRITER", (x, due) -> {
            x.text(0, 0, 2, 0);
            x.text(3, 0, 2, 0);
            due.is(x.hand(1, 2), FINDING);
            due.is(x.finding(), 4);
        });
        b.holds("NOUGHT: all of them are WITHDRAWN", (x, due) -> {
            x.withdraw(1);
            due.is(x.hand(1, 0), FINDING);
            due.is(x.finding(), 4);
        });
        int[] badFeatures = {-1, 4, 11, 12, LEAST, MOST};
        int[] badWriters = {-1, 6, LEAST, MOST};
        for (int n : badFeatures) {
            b.bad("BAD: FEATURE " + n, x -> x.hand(n, 0));
            b.bad("BAD ahead of NOUGHT: FEATURE " + n, x -> x.hand(n, 2));
        }
        for (int n : badWriters) b.bad("BAD: WRITER " + n, x -> x.hand(0, n));
    }

    private static int writerWithoutWords(WhoseHand x) {
        Checks.known(x, 3, "1, 2");
        return 3;
    }

    private static void mean() {
        b.promise("promise 14, mean", Worlds::ordinary);
        b.answers("of 1, 2, 3 letters", 2, x -> x.mean(0));
        b.answers("cut: 4 by 3", 1, x -> x.mean(1));
        b.answers("cut: 5 by 2", 2, x -> x.mean(2));
        b.answers("MARKS and QUOTES are not in it", 1, x -> x.mean(x.text(0, 0, 0, 0)));
        b.answers("of one WORD of 200", 200, x -> x.mean(Checks.unknown(x, "q".repeat(200))));
        b.answers("of 100 WORDS of one letter", 1, x -> x.mean(Checks.unknown(x, "q ".repeat(100))));
        b.nought("NOUGHT: no WORDS", x -> x.mean(5));
        b.holds("NOUGHT: no signs", (x, due) -> {
            due.is(x.mean(x.text(0, 1, 0, 0)), FINDING);
            due.is(x.finding(), 4);
        });
        b.nothing("NOTHING: WITHDRAWN", x -> x.mean(4));
        b.holds("NOTHING ahead of NOUGHT", (x, due) -> {
            x.withdraw(5);
            due.is(x.mean(5), FINDING);
            due.is(x.finding(), 1);
        });
        int[] bad = {-1, 6, 13, 14, LEAST, MOST};
        for (int n : bad) b.bad("BAD: TEXT " + n, x -> x.mean(n));
    }
}
