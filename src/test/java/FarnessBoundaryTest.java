import java.math.BigInteger;
import java.util.List;

/** One test for each boundary that the document names of farness, the trial and impostors: promises 15 to 22. */
public final class FarnessBoundaryTest {
    private static final int MOST = Boundaries.MOST, LEAST = Boundaries.LEAST;
    private static final int FINDING = WhoseHand.FINDING, NONE = WhoseHand.NONE;
    private static final int NOTHING = 1, NOUGHT = 4;
    private static final int[] NO_TEXTS = {-1, 6, 13, 14, LEAST, MOST};
    private static final int[] NO_WRITERS = {-1, 6, LEAST, MOST};
    private static final Boundaries b = new Boundaries("FarnessBoundaryTest");

    public static void main(String[] args) {
        sort();
        far();
        farthest();
        from();
        nearest();
        place();
        trial();
        taken();
        impostors();
        impostorsRefused();
        b.end();
    }

    /** Each of the writers has one text, of the same signs. */
    private static void alike(WhoseHand x, String signs, int... writers) {
        for (int w : writers) Checks.known(x, w, signs);
    }

    private static void sort() {
        b.promise("promise 15, sort", Worlds::ordinary);
        b.answers("0 at first", 0, x -> x.sort(0));
        b.answers("what it was by: 0", 0, x -> x.sort(1));
        b.holds("what it was by, again and again", (x, due) -> {
            due.is(x.sort(1), 0);
            due.is(x.sort(1), 1);
            due.is(x.sort(0), 1);
            due.is(x.sort(0), 0);
        });
        b.holds("FARNESS is by a sort, there and back", (x, due) -> {
            due.is(x.far(0, 1), 333);
            x.sort(1);
            due.is(x.far(0, 1), 333 * 333);
            x.sort(0);
            due.is(x.far(0, 1), 333);
        });
        int[] bad = {-1, 2, LEAST, MOST};
        for (int n : bad) b.bad("BAD: sort " + n, x -> x.sort(n));
        b.holds("BAD: FARNESS stays by sort 1", (x, due) -> {
            x.sort(1);
            due.is(x.sort(2), WhoseHand.BAD);
            due.is(x.sort(-1), WhoseHand.BAD);
            due.is(x.count(3), 1);
        });
    }

    private static void far() {
        b.promise("promise 16, far", Worlds::ordinary);
        b.answers("the sum over all FEATURES: one differs", 333, x -> x.far(0, 1));
        b.answers("the sum over all FEATURES: three differ", 142 + 167 + 167, x -> x.far(3, 2));
        b.answers("as far the other way", 142 + 167 + 167, x -> x.far(2, 3));
        b.answers("a TEXT from itself", 0, x -> x.far(2, 2));
        b.answers("a TEXT without WORDS has RATES of 0", 333, x -> x.far(5, 1));
        b.answers("the first and the last TEXT", 333 + 333, x -> x.far(0, 5));
        b.holds("by sort 1: the sum of the squares", (x, due) -> {
            x.sort(1);
            due.is(x.far(3, 2), 142 * 142 + 167 * 167 + 167 * 167);
            due.is(x.far(2, 3), 142 * 142 + 167 * 167 + 167 * 167);
            due.is(x.far(2, 2), 0);
        });
        for (int n : NO_TEXTS) {
            b.bad("BAD: the one is TEXT " + n, x -> x.far(n, 0));
            b.bad("BAD: the other is TEXT " + n, x -> x.far(0, n));
            b.bad("BAD ahead of NOTHING: the one is TEXT " + n, x -> x.far(n, 4));
            b.bad("BAD ahead of NOTHING: the other is TEXT " + n, x -> x.far(4, n));
        }
        b.nothing("NOTHING: either: the one", x -> x.far(4, 0));
        b.nothing("NOTHING: either: the other", x -> x.far(0, 4));
        b.nothing("NOTHING: either: both", x -> x.far(4, 4));
    }

    private static void farthest() {
        b.promise("promise 16, far", Worlds::empty);
        b.holds("no FEATURES: not far", (x, due) -> {
            due.is(x.far(Checks.unknown(x, "a"), Checks.unknown(x, "bb")), 0);
            x.sort(1);
            due.is(x.far(0, 1), 0);
        });
        b.holds("12 FEATURES, all as far as can be", (x, due) -> {
            for (int f = 0; f < 12; f++) x.feature(1, 1 + f % 2);
            due.is(x.far(Checks.unknown(x, "a"), Checks.unknown(x, "bb")), 12000);
            x.sort(1);
            due.is(x.far(0, 1), 12000000);
        });
        b.holds("each of 12 FEATURES is in the sum", (x, due) -> {
            for (int f = 0; f < 12; f++) {
                x.feature(0, 'a' + f);
                due.is(f == 0 ? Checks.unknown(x, "abcdefghijkl") + Checks.unknown(x, "1") : 1, 1);
                due.is(x.far(0, 1), 83 * (f + 1));
            }
        });
    }

    private static void from() {
        b.promise("promise 17, from", Worlds::ordinary);
        b.answers("of a TEXT by nobody known", 333, x -> x.from(0, 0));
        b.answers("of a KNOWN one, from another WRITER", 167 + 500, x -> x.from(1, 1));
        b.answers("of an OLD one, from another WRITER", 167 + 500, x -> x.from(2, 0));
        b.answers("of a JOINT one", 142 + 333, x -> x.from(3, 0));
        b.answers("of one without WORDS", 333, x -> x.from(5, 0));
        b.holds("the HAND of a WRITER without it: but for that one", (x, due) -> {
            int t = Checks.known(x, 0, "bb");
            due.is(x.from(1, 0), 667);
            due.is(x.from(t, 0), 667);
            due.is(x.from(0, 0), 167 + 333);
        });
        b.holds("the HAND of WRITER 5", (x, due) -> {
            alike(x, "bb", 5);
            due.is(x.from(0, 5), 667 + 333);
        });
        b.holds("by sort 1: the sum of the squares", (x, due) -> {
            x.sort(1);
            due.is(x.from(0, 1), 2 * 167 * 167);
        });
        b.nought("NOUGHT: it has none: no TEXT", x -> x.from(0, 2));
        b.nought("NOUGHT: it has none: that TEXT alone", x -> x.from(1, 0));
        b.nought("NOUGHT: it has none: that OLD one alone", x -> x.from(2, 1));
        b.holds("NOUGHT: it has none: the others are WITHDRAWN", (x, due) -> {
            x.withdraw(1);
            due.is(x.from(0, 0), FINDING);
            due.is(x.finding(), NOUGHT);
        });
        b.nothing("NOTHING: WITHDRAWN", x -> x.from(4, 1));
        b.nothing("NOTHING ahead of NOUGHT", x -> x.from(4, 2));
        for (int n : NO_TEXTS) b.bad("BAD: TEXT " + n, x -> x.from(n, 0));
        for (int n : NO_WRITERS) {
            b.bad("BAD: WRITER " + n, x -> x.from(0, n));
            b.bad("BAD ahead of NOTHING: WRITER " + n, x -> x.from(4, n));
        }
    }

    private static void nearest() {
        b.promise("promise 18, nearest", Worlds::ordinary);
        b.answers("the WRITER whose HAND is least far: by one", 0, x -> x.nearest(0));
        b.answers("the HAND without it: of a KNOWN one", 1, x -> x.nearest(1));
        b.answers("the HAND without it: of an OLD one", 0, x -> x.nearest(2));
        b.answers("to a JOINT one", 0, x -> x.nearest(3));
        b.answers("to one without WORDS", 0, x -> x.nearest(5));
        b.holds("by sort 1", (x, due) -> {
            x.sort(1);
            due.is(x.nearest(0), 1);
        });
        b.holds("of these the least: 5 is as far as 2", (x, due) -> {
            alike(x, "a bb ccc", 5, 2);
            due.is(x.nearest(0), 2);
        });
        b.holds("of these the least: all six", (x, due) -> {
            for (int t = 0; t < 6; t++) x.withdraw(t);
            alike(x, "a", 5, 4, 3, 2, 1, 0);
            due.is(x.nearest(x.text(0, 0, 0, 0)), 0);
        });
        b.holds("not the least, if it is farther by one", (x, due) -> {
            due.is(x.from(0, 1) - x.from(0, 0), 1);
            due.is(x.nearest(0), 0);
            Checks.known(x, 2, "a bb ccc");
            due.is(x.nearest(0), 2);
        });
        b.holds("the last WRITER alone", (x, due) -> {
            x.withdraw(1);
            x.withdraw(2);
            alike(x, "a", 5);
            due.is(x.nearest(0), 5);
        });
        b.holds("no FEATURES: the least WRITER that has a HAND", (x, due) -> {
            WhoseHand y = new WhoseHand();
            alike(y, "a", 4, 3);
            due.is(y.nearest(0), 3);
            due.is(y.nearest(1), 4);
        });
        b.holds("NONE: no WRITER has a HAND", (x, due) -> {
            x.withdraw(1);
            x.withdraw(2);
            due.is(x.nearest(0), NONE);
            due.is(x.findings(NOUGHT), 0);
        });
        b.holds("NONE: that TEXT is the only one", (x, due) -> {
            x.withdraw(1);
            due.is(x.nearest(2), NONE);
            due.is(x.nearest(0), 1);
        });
        b.nothing("NOTHING: WITHDRAWN", x -> x.nearest(4));
        for (int n : NO_TEXTS) b.bad("BAD: TEXT " + n, x -> x.nearest(n));
    }

    private static void place() {
        b.promise("promise 19, place", Worlds::ordinary);
        b.answers("0 the NEAREST", 0, x -> x.place(0, 0));
        b.answers("1 the next one", 1, x -> x.place(0, 1));
        b.answers("among those that have a HAND without it", 0, x -> x.place(1, 1));
        b.holds("by sort 1", (x, due) -> {
            x.sort(1);
            due.is(x.place(0, 0), 1);
            due.is(x.place(0, 1), 0);
        });
        b.holds("of like ones the lesser first: all six", (x, due) -> {
            for (int t = 0; t < 6; t++) x.withdraw(t);
            alike(x, "a", 5, 4, 3, 2, 1, 0);
            int t = x.text(0, 0, 0, 0);
            for (int w = 0; w < 6; w++) due.is(x.place(t, w), w);
        });
        b.holds("of like ones the lesser first: 5 is as far as 1", (x, due) -> {
            alike(x, "bb ccc", 5);
            due.is(x.place(0, 0), 0);
            due.is(x.place(0, 1), 1);
            due.is(x.place(0, 5), 2);
        });
        b.nought("NOUGHT: it has none: no TEXT", x -> x.place(0, 5));
        b.nought("NOUGHT: it has none: that TEXT alone", x -> x.place(1, 0));
        b.nothing("NOTHING: WITHDRAWN", x -> x.place(4, 1));
        b.nothing("NOTHING ahead of NOUGHT", x -> x.place(4, 5));
        for (int n : NO_TEXTS) b.bad("BAD: TEXT " + n, x -> x.place(n, 0));
        for (int n : NO_WRITERS) {
            b.bad("BAD: WRITER " + n, x -> x.place(0, n));
            b.bad("BAD ahead of NOTHING: WRITER " + n, x -> x.place(4, n));
        }
    }

    private static void dueTrial(WhoseHand x, Boundaries.Due due, int right, int wrong, int notAsked) {
        due.is(x.trial(0), right);
        due.is(x.trial(1), wrong);
        due.is(x.trial(2), notAsked);
    }

    private static void trial() {
        b.promise("promise 20, trial", Worlds::ordinary);
        b.holds("a WRITER that has no other is not asked there: others are, wrong", (x, due) -> dueTrial(x, due, 0, 2, 0));
        b.holds("right: NEAREST is its WRITER", (x, due) -> {
            alike(x, "a a bb", 0);
            dueTrial(x, due, 2, 1, 0);
        });
        b.holds("wrong: another one as far, that is less", (x, due) -> {
            alike(x, "bb ccc", 1, 0, 0);
            x.withdraw(1);
            dueTrial(x, due, 2, 2, 0);
        });
        b.holds("not asked, as no WRITER has a HAND", (x, due) -> {
            x.withdraw(1);
            dueTrial(x, due, 0, 0, 1);
        });
        b.holds("no KNOWN TEXT", (x, due) -> {
            x.withdraw(1);
            x.withdraw(2);
            dueTrial(x, due, 0, 0, 0);
        });
        b.holds("TEXTS and JOINT ones are not tried", (x, due) -> {
            x.text(0, 0, 0, 0);
            x.text(3, 0, 0, 0);
            dueTrial(x, due, 0, 2, 0);
        });
        b.holds("by sort 1", (x, due) -> {
            alike(x, "a bb ccc", 1);
            dueTrial(x, due, 1, 2, 0);
            x.sort(1);
            dueTrial(x, due, 2, 1, 0);
        });
        b.holds("the first TEXT and the last, of fourteen", (x, due) -> {
            WhoseHand y = new WhoseHand();
            alike(y, "a", 3);
            for (int t = 1; t < 13; t++) Checks.unknown(y, "a");
            alike(y, "a", 3);
            dueTrial(y, due, 2, 0, 0);
        });
        b.holds("fourteen KNOWN TEXTS, all right", (x, due) -> {
            WhoseHand y = new WhoseHand();
            for (int t = 0; t < 14; t++) Checks.known(y, 5, "a");
            dueTrial(y, due, 14, 0, 0);
        });
        b.holds("fourteen KNOWN TEXTS, those of the greater WRITER wrong", (x, due) -> {
            WhoseHand y = new WhoseHand();
            for (int t = 0; t < 14; t++) Checks.known(y, t % 2, "a");
            dueTrial(y, due, 7, 7, 0);
        });
        int[] bad = {-1, 3, LEAST, MOST};
        for (int n : bad) b.bad("BAD: what " + n, x -> x.trial(n));
    }

    private static void taken() {
        b.promise("promise 21, taken", Worlds::ordinary);
        b.answers("a TEXT by WRITER 0 was given to 1", 1, x -> x.taken(0, 1));
        b.answers("a TEXT by WRITER 1 was given to 0", 1, x -> x.taken(1, 0));
        b.answers("none to its own", 0, x -> x.taken(0, 0));
        b.answers("none by a WRITER without a TEXT", 0, x -> x.taken(5, 0));
        b.answers("none to a WRITER without a TEXT", 0, x -> x.taken(0, 5));
        b.holds("also to its own", (x, due) -> {
            alike(x, "a a bb", 0, 0);
            due.is(x.taken(0, 0), 3);
            due.is(x.taken(0, 1), 0);
        });
        b.holds("by and to WRITER 5", (x, due) -> {
            x.withdraw(2);
            alike(x, "a a bb", 5);
            due.is(x.taken(5, 0), 1);
            due.is(x.taken(0, 5), 1);
        });
        b.holds("by sort 1", (x, due) -> {
            alike(x, "a bb ccc", 1);
            due.is(x.taken(1, 0), 1);
            due.is(x.taken(1, 1), 1);
            x.sort(1);
            due.is(x.taken(1, 0), 0);
            due.is(x.taken(1, 1), 2);
        });
        b.holds("the first TEXT and the last, of fourteen", (x, due) -> {
            WhoseHand y = new WhoseHand();
            y.feature(1, 1);
            alike(y, "a", 3);
            for (int t = 1; t < 13; t++) Checks.unknown(y, "a");
            alike(y, "a", 4);
            due.is(y.taken(3, 4), 1);
            due.is(y.taken(4, 3), 1);
        });
        b.holds("a TEXT that is not asked is given to none", (x, due) -> {
            x.withdraw(1);
            for (int w = 0; w < 6; w++) due.is(x.taken(1, w), 0);
        });
        b.holds("TEXTS and JOINT ones are not in THE TRIAL", (x, due) -> {
            x.text(0, 0, 0, 0);
            x.text(3, 0, 0, 0);
            due.is(x.taken(0, 1), 1);
            due.is(x.taken(0, 0), 0);
        });
        for (int n : NO_WRITERS) {
            b.bad("BAD: WRITER a " + n, x -> x.taken(n, 0));
            b.bad("BAD: WRITER b " + n, x -> x.taken(0, n));
        }
    }

    /** How many of n trials writer 0 wins from the other one, by how far they are in each feature. */
    private static int won(int[] farZero, int[] farOther, int n, long seed) {
        BigInteger s = BigInteger.valueOf(seed);
        int won = 0;
        for (int i = 0; i < n; i++) {
            s = s.multiply(BigInteger.valueOf(1103515245)).add(BigInteger.valueOf(12345));
            s = s.mod(BigInteger.ONE.shiftLeft(64));
            long zero = 0;
            long other = 0;
            boolean none = s.shiftRight(16).mod(BigInteger.ONE.shiftLeft(farZero.length)).signum() == 0;
            for (int k = 0; k < farZero.length; k++) {
                if (!none && !s.testBit(16 + k)) continue;
                zero += farZero[k];
                other += farOther[k];
            }
            if (zero <= other) won++;
        }
        return won;
    }

    /** Twelve letters, in each of which the text is otherwise far from writer 0 than from writer 3. */
    private static void twelveLetters(WhoseHand x) {
        for (int f = 0; f < 12; f++) x.feature(0, 'a' + f);
        StringBuilder zero = new StringBuilder("zzz");
        StringBuilder three = new StringBuilder("z");
        for (int f = 0; f < 12; f++) {
            zero.append(String.valueOf((char) ('a' + f)).repeat(1 + f * 5 % 7));
            three.append(String.valueOf((char) ('a' + f)).repeat(1 + f * 3 % 8));
        }
        Checks.unknown(x, "abcdefghijkl");
        Checks.known(x, 0, zero.toString());
        Checks.known(x, 3, three.toString());
    }

    private static void dueImpostors(WhoseHand x, Boundaries.Due due, int n, long seed) {
        int[] farZero = new int[12];
        int[] farThree = new int[12];
        for (int f = 0; f < 12; f++) {
            farZero[f] = Math.abs(x.rate(f, 0) - x.hand(f, 0));
            farThree[f] = Math.abs(x.rate(f, 0) - x.hand(f, 3));
            if (x.count(3) == 1) {
                farZero[f] *= farZero[f];
                farThree[f] *= farThree[f];
            }
        }
        int won = won(farZero, farThree, n, seed);
        due.is(x.impostors(0, 0, n, seed), won);
        due.is(x.impostors(0, 3, n, seed), n - won);
    }

    /** Writer 0 wins a trial if the one FEATURE in which it is far from the TEXT does not count there. */
    private static void impostorsByBits(String sentence, long seed, Integer... bits) {
        b.holds("bit k for FEATURE k: of the first trial, " + sentence, (x, due) -> {
            for (int k = 0; k < 12; k++) {
                WhoseHand y = new WhoseHand();
                for (int f = 0; f < 12; f++) y.feature(1, f == k ? 2 : 1);
                Checks.unknown(y, "ccc");
                alike(y, "bb", 0);
                alike(y, "ddd", 1);
                boolean counts = List.of(bits).contains(k);
                due.is(y.impostors(0, 0, 1, seed), counts ? 0 : 1);
                due.is(y.impostors(0, 1, 1, seed), counts ? 1 : 0);
            }
        });
    }

    private static void impostors() {
        b.promise("promise 22, impostors", FarnessBoundaryTest::twelveLetters);
        long[] seeds = {0, 1, -1, 65535, -65536, Long.MAX_VALUE, Long.MIN_VALUE, 4022250974L, -987654321987654321L};
        for (long seed : seeds) {
            b.holds("1 trial, S begins with the seed " + seed, (x, due) -> dueImpostors(x, due, 1, seed));
            b.holds("2 trials, S goes on from the first one, seed " + seed, (x, due) -> dueImpostors(x, due, 2, seed));
            b.holds("200 trials, S wraps, seed " + seed, (x, due) -> dueImpostors(x, due, 200, seed));
        }
        b.holds("by sort 1", (x, due) -> {
            x.sort(1);
            dueImpostors(x, due, 200, 5);
        });
        impostorsByBits("seed 1", 1, 1, 2, 6, 7, 8);
        impostorsByBits("seed 5, with 0 and 11", 5, 0, 1, 2, 3, 4, 6, 7, 11);
        impostorsByBits("seed 13", 13, 1, 4, 8, 9, 10);
        impostorsByBits("seed 16", 16, 0, 2, 5, 6, 10, 11);
        b.holds("if none, all: bits 4, 5, 7, 8 are no FEATURES, if there are four", (x, due) -> {
            WhoseHand y = new WhoseHand();
            for (int f = 0; f < 4; f++) y.feature(1, 1);
            Checks.unknown(y, "a");
            alike(y, "bb", 0);
            alike(y, "a", 1);
            due.is(y.impostors(0, 1, 1, 28), 1);
            due.is(y.impostors(0, 0, 1, 28), 0);
        });
        b.holds("if none, all: of one FEATURE, always", (x, due) -> {
            WhoseHand y = new WhoseHand();
            y.feature(1, 1);
            Checks.unknown(y, "a");
            Checks.known(y, 0, "bb");
            Checks.known(y, 1, "a");
            due.is(y.impostors(0, 1, 200, 3), 200);
            due.is(y.impostors(0, 0, 200, 3), 0);
        });
        b.holds("if none, all: seed 0 tells none of the first trial", (x, due) -> {
            alike(x, "abcdefghijkl", 5);
            due.is(x.nearest(0), 5);
            due.is(x.impostors(0, 5, 1, 0), 1);
            due.is(x.impostors(0, 0, 1, 0), 0);
        });
        b.holds("NEAREST: of like ones the least wins", (x, due) -> {
            WhoseHand y = new WhoseHand();
            y.feature(1, 1);
            Checks.unknown(y, "a");
            alike(y, "a", 2, 1);
            due.is(y.impostors(0, 1, 200, 0), 200);
            due.is(y.impostors(0, 2, 200, 0), 0);
        });
        b.holds("the HAND without that TEXT", (x, due) -> {
            WhoseHand y = new WhoseHand();
            y.feature(1, 1);
            Checks.known(y, 0, "a");
            Checks.known(y, 0, "bb");
            Checks.known(y, 1, "a");
            due.is(y.impostors(0, 1, 200, 0), 200);
            due.is(y.impostors(0, 0, 200, 0), 0);
        });
        b.holds("one WRITER alone wins all", (x, due) -> {
            x.withdraw(1);
            due.is(x.impostors(0, 3, 200, 9), 200);
        });
    }

    private static void impostorsRefused() {
        b.promise("promise 22, impostors", Worlds::ordinary);
        for (int n : NO_TEXTS) b.bad("BAD: TEXT " + n, x -> x.impostors(n, 0, 1, 0));
        for (int n : NO_WRITERS) b.bad("BAD: WRITER " + n, x -> x.impostors(0, n, 1, 0));
        int[] badTrials = {0, -1, 201, LEAST, MOST};
        for (int n : badTrials) b.bad("BAD: n trials (1 .. 200): " + n, x -> x.impostors(0, 0, n, 0));
        b.bad("BAD ahead of NOTHING", x -> x.impostors(4, 0, 201, 0));
        b.bad("BAD ahead of NOUGHT", x -> x.impostors(0, 5, 0, 0));
        b.nothing("NOTHING: WITHDRAWN", x -> x.impostors(4, 0, 1, 0));
        b.nothing("NOTHING ahead of NOUGHT", x -> x.impostors(4, 5, 1, 0));
        b.nought("NOUGHT: the WRITER has no HAND without it: no TEXT", x -> x.impostors(0, 5, 1, 0));
        b.nought("NOUGHT: the WRITER has no HAND without it: that TEXT alone", x -> x.impostors(1, 0, 1, 0));
        b.promise("promise 22, impostors", FarnessBoundaryTest::noFeatures);
        b.state("STATE: there are no FEATURES", x -> x.impostors(0, 0, 1, 0));
        b.state("STATE ahead of NOTHING", x -> x.impostors(2, 0, 1, 0));
        b.state("STATE ahead of NOUGHT", x -> x.impostors(0, 5, 1, 0));
        b.state("STATE: n 200, the last WRITER", x -> x.impostors(1, 5, 200, -1));
        b.bad("BAD TEXT ahead of STATE", x -> x.impostors(3, 0, 1, 0));
        b.bad("BAD WRITER ahead of STATE", x -> x.impostors(0, 6, 1, 0));
        b.bad("BAD n ahead of STATE: 0", x -> x.impostors(0, 0, 0, 0));
        b.bad("BAD n ahead of STATE: 201", x -> x.impostors(0, 0, 201, 0));
        b.holds("no STATE as soon as there is one FEATURE", (x, due) -> {
            x.feature(1, 1);
            due.is(x.impostors(0, 0, 3, 0), 3);
            due.is(x.impostors(2, 0, 1, 0), FINDING);
            due.is(x.finding(), NOTHING);
        });
    }

    private static void noFeatures(WhoseHand x) {
        Checks.unknown(x, "a");
        Checks.known(x, 0, "a");
        Checks.unknown(x, "b");
        x.withdraw(2);
    }
}
