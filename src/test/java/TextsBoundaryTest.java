/** One test for each boundary that the document names of signs, words and texts: its terms, promises 6 to 9. */
public final class TextsBoundaryTest {
    private static final int MOST = Boundaries.MOST, LEAST = Boundaries.LEAST;
    private static final int FINDING = WhoseHand.FINDING, NONE = WhoseHand.NONE;
    private static final Boundaries b = new Boundaries("TextsBoundaryTest");

    public static void main(String[] args) {
        words();
        marks();
        quotes();
        text();
        textRefused();
        textFull();
        told();
        mark();
        withdraw();
        asIfItHadNeverBeen();
        b.end();
    }

    private static String byte8(int c) {
        return String.valueOf((char) c);
    }

    private static void dueOf(String sentence, String signs, int words, int lettersAndMarks, int quotes) {
        b.holds(sentence, (x, due) -> {
            int t = Checks.unknown(x, signs);
            due.is(x.told(t, 2), words);
            due.is(x.told(t, 3), lettersAndMarks);
            due.is(x.told(t, 4), quotes);
        });
    }

    private static void words() {
        b.promise("terms, WORDS", Worlds::empty);
        dueOf("of a text without signs", "", 0, 0, 0);
        dueOf("of blanks alone", "     ", 0, 0, 0);
        dueOf("of one letter", "x", 1, 1, 0);
        dueOf("as long as can be: 200 letters", "x".repeat(200), 1, 200, 0);
        dueOf("as many as can be: 100", "x ".repeat(100), 100, 100, 0);
        dueOf("as many as can be: 100, the blanks first", " x".repeat(100), 100, 100, 0);
        dueOf("a run at the first and at the last sign", "ab cd", 2, 4, 0);
        dueOf("letters a .. z: its ends", "a z", 2, 2, 0);
        dueOf("letters A .. Z: its ends", "A Z", 2, 2, 0);
        dueOf("no letter: the sign ahead of a", "x`x", 2, 3, 0);
        dueOf("no letter: the sign behind z", "x{x", 2, 3, 0);
        dueOf("no letter: the sign ahead of A", "x@x", 2, 3, 0);
        dueOf("no letter: the signs behind Z", "x\\x^x_x", 4, 7, 0);
        dueOf("no letter: a figure", "x1x9x0x", 4, 7, 0);
        dueOf("no letter: ' and -", "x'x-x", 3, 5, 0);
        dueOf("no letter: a byte that is a letter elsewhere", "x" + byte8(228) + "x", 2, 2, 0);
        dueOf("no letter: a byte that is a and 128", "x" + byte8(128 + 'a') + "x", 2, 2, 0);
        dueOf("no letter: sign 0", "x" + byte8(0) + "x", 2, 2, 0);
        b.holds("great letters being as small ones", (x, due) -> {
            Checks.write(x, 0, "zebra");
            x.feature(3, 0);
            due.is(x.counts(0, Checks.unknown(x, "ZEBRA Zebra zEbRa zebra")), 4);
        });
        b.holds("great letters and small ones are one run", (x, due) -> due.is(x.told(Checks.unknown(x, "aAzZ"), 2), 1));
    }

    private static void marks() {
        b.promise("terms, MARKS", Worlds::empty);
        dueOf("signs 33 to 126: the first", "!", 0, 1, 0);
        dueOf("signs 33 to 126: the last", "~", 0, 1, 0);
        dueOf("signs 33 to 126: not 32", " ", 0, 0, 0);
        dueOf("signs 33 to 126: not 127", byte8(127), 0, 0, 0);
        dueOf("signs 33 to 126: not 128", byte8(128), 0, 0, 0);
        dueOf("signs 33 to 126: not 255", byte8(255), 0, 0, 0);
        dueOf("signs 33 to 126: not a sign and 128", byte8(128 + '!'), 0, 0, 0);
        dueOf("signs 33 to 126: not 0", byte8(0), 0, 0, 0);
        dueOf("signs 33 to 126: not 10", "\n", 0, 0, 0);
        dueOf("neither letters: once each", "a!", 1, 2, 0);
        dueOf("nor [", "![", 0, 1, 1);
        dueOf("nor ]", "]!", 0, 1, 0);
        dueOf("the signs beside [ and ]", "Z\\^`", 1, 4, 0);
        dueOf("200 of them", "!".repeat(200), 0, 200, 0);
    }

    private static void quotes() {
        b.promise("terms, a QUOTE", Worlds::empty);
        dueOf("from a sign [ to the next ]", "a [b c!] d", 2, 2, 1);
        dueOf("from [ to the next ]: another [ is in it", "a [b [c] d", 2, 2, 1);
        dueOf("to the next ]: not to a later one", "a [b] c] d", 3, 3, 1);
        dueOf("with both: [ ] beside one another", "a[]b", 2, 2, 1);
        dueOf("without one: to the end", "a [b c d", 1, 1, 1);
        dueOf("without one: [ is the last sign", "a b [", 2, 2, 1);
        dueOf("without one: of the second [", "a [b] c [d e", 2, 2, 2);
        dueOf("a ] that no [ is ahead of", "a ] b", 2, 2, 0);
        dueOf("] ahead of [", "a] b [c", 2, 2, 1);
        dueOf("all of a text", "[a b]", 0, 0, 1);
        dueOf("as if a blank stood for it: between letters", "ab[c]de", 2, 4, 1);
        dueOf("as if a blank stood for it: without signs in it", "ab[]de", 2, 4, 1);
        dueOf("as if a blank stood for it: at the first sign", "[a]b", 1, 1, 1);
        dueOf("as if a blank stood for it: at the last sign", "b[a]", 1, 1, 1);
        dueOf("one behind another", "[a][b]c[d]", 1, 1, 3);
        dueOf("100 of them", "[]".repeat(100), 0, 0, 100);
        dueOf("200 signs [: one", "[".repeat(200), 0, 0, 1);
        dueOf("200 signs ]: none", "]".repeat(200), 0, 0, 0);
        b.holds("what is in it is not looked at: by FEATURES", (x, due) -> {
            x.feature(0, '!');
            x.feature(0, 'a');
            x.feature(1, 2);
            x.feature(2, 'a');
            int t = Checks.unknown(x, "[aa! aa!] bb aa! [aa!");
            int[] counts = {1, 2, 2, 1};
            for (int f = 0; f < 4; f++) due.is(x.counts(f, t), counts[f]);
        });
        b.holds("what is in it is not looked at: by mean()", (x, due) -> due.is(x.mean(Checks.unknown(x, "a [bbbbb] ccc")), 2));
        b.holds("what is in it is not looked at: by the first WORD", (x, due) -> {
            Checks.write(x, 0, "[no] yes");
            x.feature(3, 0);
            due.is(x.counts(0, Checks.unknown(x, "no no yes")), 1);
        });
    }

    private static void text() {
        b.promise("promise 6, text", Worlds::ordinary);
        b.answers("its number: one more than ever, the WITHDRAWN one too", 6, x -> x.text(0, 0, 0, 0));
        b.answers("KIND 1, WRITER 0", 6, x -> x.text(1, 0, 0, 0));
        b.answers("KIND 1, WRITER 5", 6, x -> x.text(1, 0, 5, 0));
        b.answers("KIND 2, WRITER 0, year 0", 6, x -> x.text(2, 0, 0, 0));
        b.answers("KIND 2, WRITER 5, year 9999", 6, x -> x.text(2, 0, 5, 9999));
        b.answers("KIND 3", 6, x -> x.text(3, 0, 0, 0));
        b.answers("SHEET 3", 6, x -> x.text(0, 3, 0, 0));
        b.answers("a SHEET without signs", 6, x -> x.text(0, 1, 0, 0));
        int[] wild = {-1, 6, 10000, LEAST, MOST};
        for (int n : wild) {
            b.answers("writer of a TEXT is not looked at: " + n, 6, x -> x.text(0, 0, n, 0));
            b.answers("writer of a JOINT one is not looked at: " + n, 6, x -> x.text(3, 0, n, 0));
            b.answers("year of a TEXT is not looked at: " + n, 6, x -> x.text(0, 0, 0, n));
            b.answers("year of a KNOWN one is not looked at: " + n, 6, x -> x.text(1, 0, 0, n));
            b.answers("year of a JOINT one is not looked at: " + n, 6, x -> x.text(3, 0, 0, n));
        }
        b.holds("a TEXT is a SHEET's signs as they were: one is laid", (x, due) -> {
            int t = x.text(0, 0, 0, 0);
            x.lay(0, 2, 'b');
            due.is(x.told(t, 2), 3);
            due.is(x.counts(0, t), 1);
        });
        b.holds("a TEXT is a SHEET's signs as they were: it is torn", (x, due) -> {
            int t = x.text(0, 0, 0, 0);
            x.tear(0);
            due.is(x.told(t, 2), 3);
            due.is(x.part(t, 1, 0, 1, 0) >= 0 ? 1 : 0, 1);
            due.is(x.counts(x.feature(0, '!'), t), 1);
        });
        b.holds("a TEXT is a SHEET's signs as they were: it is new", (x, due) -> {
            int t = x.text(0, 0, 0, 0);
            x.sheet(0, 200);
            due.is(x.told(t, 3), 7);
            due.is(x.counts(x.feature(0, 'b'), t), 2);
        });
        b.holds("a TEXT is a SHEET's signs as they were: one is copied", (x, due) -> {
            int t = x.text(0, 0, 0, 0);
            x.copy(3, 0, 0, 0, 7);
            due.is(x.told(t, 2), 3);
            due.is(x.told(t, 4), 1);
        });
    }

    private static void textRefused() {
        b.promise("promise 6, text", Worlds::ordinary);
        int[] bad = {-1, 4, LEAST, MOST};
        for (int n : bad) {
            b.bad("BAD: KIND " + n, x -> x.text(n, 0, 0, 0));
            b.bad("BAD: SHEET " + n, x -> x.text(0, n, 0, 0));
        }
        int[] badWriters = {-1, 6, LEAST, MOST};
        int[] badYears = {-1, 10000, LEAST, MOST};
        for (int n : badWriters) {
            b.bad("BAD: writer of a KNOWN one: " + n, x -> x.text(1, 0, n, 0));
            b.bad("BAD: writer of an OLD one: " + n, x -> x.text(2, 0, n, 0));
        }
        for (int n : badYears) b.bad("BAD: year of an OLD one: " + n, x -> x.text(2, 0, 0, n));
        b.nothing("NOTHING: the SHEET is missing", x -> x.text(0, 2, 0, 0));
        b.nothing("NOTHING: of an OLD one", x -> x.text(2, 2, 5, 9999));
        b.bad("BAD KIND ahead of NOTHING", x -> x.text(4, 2, 0, 0));
        b.bad("BAD writer ahead of NOTHING", x -> x.text(1, 2, 6, 0));
        b.bad("BAD year ahead of NOTHING", x -> x.text(2, 2, 0, 10000));
    }

    private static void textFull() {
        b.promise("promise 6, text", Worlds::ofFourteenTexts);
        b.answers("14 at most ever: there are", 14, x -> x.count(0));
        b.answers("14 at most ever: the last one is there", 3, x -> x.told(13, 2));
        b.full("FULL: the fifteenth", x -> x.text(0, 0, 0, 0));
        b.full("FULL: of each KIND", x -> x.text(2, 0, 0, 0));
        b.full("FULL ahead of NOTHING", x -> x.text(0, 2, 0, 0));
        b.bad("BAD KIND ahead of FULL", x -> x.text(-1, 0, 0, 0));
        b.bad("BAD SHEET ahead of FULL", x -> x.text(0, 4, 0, 0));
        b.bad("BAD writer ahead of FULL", x -> x.text(1, 0, 6, 0));
        b.bad("BAD year ahead of FULL", x -> x.text(2, 0, 0, -1));
        b.holds("14 at most ever: all WITHDRAWN, too", (x, due) -> {
            for (int t = 0; t < 14; t++) x.withdraw(t);
            due.is(x.count(1), 0);
            due.is(x.text(0, 0, 0, 0), WhoseHand.FULL);
            due.is(x.count(0), 14);
        });
        b.promise("promise 6, text", Worlds::empty);
        b.holds("14 at most ever: each one's number", (x, due) -> {
            x.sheet(0, 1);
            for (int t = 0; t < 14; t++) due.is(x.text(t % 4, 0, t % 6, 9999), t);
            due.is(x.text(0, 0, 0, 0), WhoseHand.FULL);
        });
    }

    private static void told() {
        b.promise("promise 7, told", Worlds::ordinary);
        int[][] all = {{0, NONE, 3, 6, 0}, {1, 0, 3, 4, 0}, {2, 1, 2, 5, 0}, {3, NONE, 3, 7, 0}, {}, {0, NONE, 0, 1, 1}};
        String[] names = {"KIND", "WRITER (NONE)", "WORDS", "letters and MARKS", "QUOTES"};
        for (int t = 0; t < all.length; t++) {
            for (int what = 0; what < all[t].length; what++) {
                int text = t;
                int asked = what;
                b.answers(names[what] + " of TEXT " + t, all[t][what], x -> x.told(text, asked));
            }
        }
        for (int what = 0; what < 5; what++) {
            int asked = what;
            b.nothing("NOTHING: WITHDRAWN: " + names[what], x -> x.told(4, asked));
        }
        b.answers("WRITER 5", 5, x -> x.told(x.text(1, 0, 5, 0), 1));
        b.answers("WRITER 0 of an OLD one", 0, x -> x.told(x.text(2, 0, 0, 7), 1));
        int[] badTexts = {-1, 6, 13, 14, LEAST, MOST};
        int[] badWhats = {-1, 5, LEAST, MOST};
        for (int n : badTexts) b.bad("BAD: TEXT " + n, x -> x.told(n, 0));
        for (int n : badWhats) b.bad("BAD: what " + n, x -> x.told(0, n));
        b.bad("BAD what ahead of NOTHING", x -> x.told(4, 5));
    }

    private static void mark() {
        b.promise("promise 8, mark", Worlds::ordinary);
        b.answers("a KNOWN one its WRITER", 0, x -> x.mark(1, 1));
        b.answers("a KNOWN one its WRITER: the last", 5, x -> x.mark(x.text(1, 0, 5, 0), 1));
        b.answers("an OLD one, too, its WRITER", 1, x -> x.mark(2, 1));
        b.answers("an OLD one its year", 1850, x -> x.mark(2, 2));
        b.answers("an OLD one its year: 0", 0, x -> x.mark(x.text(2, 0, 3, 0), 2));
        b.answers("an OLD one its year: 9999", 9999, x -> x.mark(x.text(2, 0, 3, 9999), 2));
        b.answers("a JOINT one how many WORDS it has", 3, x -> x.mark(3, 3));
        b.answers("a JOINT one how many WORDS it has: none", 0, x -> x.mark(x.text(3, 3, 0, 0), 3));
        b.unlike("UNLIKE: a TEXT is not KNOWN", x -> x.mark(0, 1));
        b.unlike("UNLIKE: a TEXT is not OLD", x -> x.mark(0, 2));
        b.unlike("UNLIKE: a TEXT is not JOINT", x -> x.mark(0, 3));
        b.unlike("UNLIKE: a KNOWN one is not OLD", x -> x.mark(1, 2));
        b.unlike("UNLIKE: a KNOWN one is not JOINT", x -> x.mark(1, 3));
        b.unlike("UNLIKE: an OLD one is not JOINT", x -> x.mark(2, 3));
        b.unlike("UNLIKE: a JOINT one is not KNOWN", x -> x.mark(3, 1));
        b.unlike("UNLIKE: a JOINT one is not OLD", x -> x.mark(3, 2));
        int[] badTexts = {-1, 6, 14, LEAST, MOST};
        int[] badKinds = {-1, 4, LEAST, MOST};
        for (int t = 0; t < 5; t++) {
            int text = t;
            b.bad("BAD: also KIND 0, of TEXT " + t, x -> x.mark(text, 0));
        }
        for (int n : badTexts) b.bad("BAD: TEXT " + n, x -> x.mark(n, 1));
        for (int n : badKinds) b.bad("BAD: KIND " + n, x -> x.mark(1, n));
        b.nothing("NOTHING: WITHDRAWN", x -> x.mark(4, 1));
        b.nothing("NOTHING ahead of UNLIKE", x -> x.mark(4, 3));
        b.bad("BAD KIND ahead of NOTHING", x -> x.mark(4, 4));
    }

    private static void withdraw() {
        b.promise("promise 9, withdraw", Worlds::ordinary);
        b.answers("A TEXT is WITHDRAWN: 1: the first", 1, x -> x.withdraw(0));
        b.answers("A TEXT is WITHDRAWN: 1: the last", 1, x -> x.withdraw(5));
        b.nothing("NOTHING: it is", x -> x.withdraw(4));
        b.holds("NOTHING: it is: of one twice", (x, due) -> {
            due.is(x.withdraw(0), 1);
            due.is(x.withdraw(0), FINDING);
            due.is(x.finding(), 1);
            due.is(x.count(1), 4);
        });
        int[] bad = {-1, 6, 13, 14, LEAST, MOST};
        for (int n : bad) b.bad("BAD: TEXT " + n, x -> x.withdraw(n));
        b.holds("numbers stay: those of the others", (x, due) -> {
            x.withdraw(0);
            due.is(x.told(1, 0), 1);
            due.is(x.mark(2, 2), 1850);
            due.is(x.told(5, 4), 1);
        });
        b.holds("numbers stay: the last one's is not given again", (x, due) -> {
            x.withdraw(5);
            due.is(x.text(0, 0, 0, 0), 6);
            due.is(x.told(5, 0), FINDING);
        });
        b.promise("promise 9, withdraw", Worlds::ofFourteenTexts);
        b.answers("the fourteenth", 1, x -> x.withdraw(13));
        b.bad("BAD: a fifteenth", x -> x.withdraw(14));
    }

    private static void asIfItHadNeverBeen() {
        b.promise("terms, WITHDRAWN: then all is as if it had never been", Worlds::ordinary);
        b.nothing("told", x -> x.told(4, 0));
        b.nothing("mark", x -> x.mark(4, 1));
        b.nothing("counts", x -> x.counts(1, 4));
        b.nothing("rate", x -> x.rate(1, 4));
        b.nothing("mean", x -> x.mean(4));
        b.nothing("far: the one", x -> x.far(4, 0));
        b.nothing("far: the other", x -> x.far(0, 4));
        b.nothing("from", x -> x.from(4, 1));
        b.nothing("nearest", x -> x.nearest(4));
        b.nothing("place", x -> x.place(4, 1));
        b.nothing("impostors", x -> x.impostors(4, 1, 1, 0));
        b.nothing("part", x -> x.part(4, 1, 0, 1, 0));
        b.answers("hand", 333, x -> x.hand(1, 0));
        b.answers("from the HAND", 333, x -> x.from(0, 0));
        b.answers("the HAND without another one", FINDING, x -> x.from(1, 0));
        b.answers("trial: right", 0, x -> x.trial(0));
        b.answers("trial: wrong", 2, x -> x.trial(1));
        b.answers("trial: not asked", 0, x -> x.trial(2));
        b.answers("taken", 1, x -> x.taken(0, 1));
        b.answers("tree", 4, x -> x.tree());
        b.holds("shuffle", (x, due) -> {
            due.is(x.shuffle(1, 0, 1), 2);
            due.is(x.asked(), 2);
        });
        b.answers("how many are there", 5, x -> x.count(1));
        b.holds("its WRITER has no HAND more", (x, due) -> {
            due.is(x.withdraw(1), 1);
            due.is(x.hand(1, 0), FINDING);
            due.is(x.finding(), 4);
            due.is(x.nearest(0), 1);
            due.is(x.shuffle(1, 0, 1), FINDING);
            due.is(x.finding(), 4);
            due.is(x.trial(2), 1);
        });
    }
}
