import java.math.BigInteger;
import java.util.ArrayList;
import java.util.List;

/** One test for each boundary that the document names of answers and of what is told: its terms, promises 29 to 32. */
public final class ToldBoundaryTest {
    private static final int MOST = Boundaries.MOST, LEAST = Boundaries.LEAST;
    private static final int BAD = WhoseHand.BAD, FINDING = WhoseHand.FINDING, NONE = WhoseHand.NONE;
    private static final Boundaries b = new Boundaries("ToldBoundaryTest");

    public static void main(String[] args) {
        answers();
        count();
        finding();
        findings();
        digest();
        digestWraps();
        b.end();
    }

    private static void answers() {
        b.promise("terms, ANSWERS", Worlds::ordinary);
        b.answers("BAD -1", -1, x -> WhoseHand.BAD);
        b.answers("FULL -2", -2, x -> WhoseHand.FULL);
        b.answers("FINDING -3", -3, x -> WhoseHand.FINDING);
        b.answers("STATE -4", -4, x -> WhoseHand.STATE);
        b.answers("NONE -9", -9, x -> WhoseHand.NONE);
        b.holds("BAD ahead of FULL, FULL ahead of FINDING", (x, due) -> {
            for (int t = 6; t < 14; t++) x.text(0, 0, 0, 0);
            due.is(x.text(1, 2, 6, 0), -1);
            due.is(x.text(1, 2, 5, 0), -2);
        });
        b.holds("BAD ahead of STATE, STATE ahead of FINDING", (x, due) -> {
            WhoseHand y = new WhoseHand();
            Checks.unknown(y, "a");
            y.withdraw(0);
            due.is(y.impostors(0, 0, 0, 0), -1);
            due.is(y.impostors(0, 0, 1, 0), -4);
            y.feature(1, 1);
            due.is(y.impostors(0, 0, 1, 0), -3);
        });
        b.answers("FINDINGS: 1 NOTHING: a SHEET that is missing", 1, x -> x.tear(2) + 3 + x.finding());
        b.answers("FINDINGS: 1 NOTHING: a TEXT that is WITHDRAWN", 1, x -> x.mean(4) + 3 + x.finding());
        b.answers("FINDINGS: 2 BEYOND: a place that there is not", 2, x -> x.lay(0, 14, 'a') + 3 + x.finding());
        b.answers("FINDINGS: 3 UNLIKE: a TEXT of another KIND", 3, x -> x.mark(0, 1) + 3 + x.finding());
        b.answers("FINDINGS: 4 NOUGHT: shared among none", 4, x -> x.mean(5) + 3 + x.finding());
        b.answers("FINDINGS: 5 SIZE: fewer than none", 5, x -> x.sheet(0, -1) + 3 + x.finding());
    }

    private static void count() {
        b.promise("promise 29, count", Worlds::ordinary);
        b.answers("0 TEXTS ever", 6, x -> x.count(0));
        b.answers("1 those that are not WITHDRAWN", 5, x -> x.count(1));
        b.answers("2 FEATURES", 4, x -> x.count(2));
        b.answers("3 the sort of FARNESS", 0, x -> x.count(3));
        b.holds("0 TEXTS ever: 14", (x, due) -> {
            for (int t = 6; t < 15; t++) x.text(0, 0, 0, 0);
            due.is(x.count(0), 14);
            due.is(x.count(1), 13);
        });
        b.holds("1 those that are not WITHDRAWN: none", (x, due) -> {
            for (int t = 0; t < 6; t++) x.withdraw(t);
            due.is(x.count(0), 6);
            due.is(x.count(1), 0);
        });
        b.holds("2 FEATURES: 12", (x, due) -> {
            for (int f = 4; f < 14; f++) x.feature(1, 1);
            due.is(x.count(2), 12);
        });
        b.holds("3 the sort of FARNESS: 1", (x, due) -> {
            x.sort(1);
            due.is(x.count(3), 1);
        });
        int[] bad = {-1, 4, LEAST, MOST};
        for (int n : bad) b.bad("BAD: what " + n, x -> x.count(n));
    }

    private static void finding() {
        b.promise("promise 30, finding", Worlds::ordinary);
        b.answers("The latest FINDING", 3, x -> x.finding());
        b.holds("The latest FINDING: one after another", (x, due) -> {
            x.tear(2);
            due.is(x.finding(), 1);
            x.lay(1, 0, 'a');
            due.is(x.finding(), 2);
            x.mark(0, 3);
            due.is(x.finding(), 3);
            x.hand(0, 5);
            due.is(x.finding(), 4);
            x.feature(3, 1);
            due.is(x.finding(), 5);
            x.tear(2);
            due.is(x.finding(), 1);
        });
        b.holds("The latest FINDING: what is no FINDING leaves it", (x, due) -> {
            due.is(x.tear(-1), BAD);
            due.is(x.window(9), NONE);
            due.is(x.join(9, 0), NONE);
            due.is(x.tree(), 4);
            due.is(x.sheet(1, 0), 0);
            for (int t = 6; t < 15; t++) x.text(0, 0, 0, 0);
            due.is(x.text(0, 2, 0, 0), WhoseHand.FULL);
            due.is(x.finding(), 3);
        });
        b.promise("promise 30, finding", Worlds::empty);
        b.answers("0 before any", 0, x -> x.finding());
        b.holds("0 before any: after BAD, NONE and STATE, too", (x, due) -> {
            due.is(x.tear(4), BAD);
            due.is(x.window(0), NONE);
            Checks.unknown(x, "a");
            due.is(x.nearest(0), NONE);
            due.is(x.impostors(0, 0, 1, 0), WhoseHand.STATE);
            due.is(x.finding(), 0);
        });
    }

    private static void findings() {
        b.promise("promise 31, findings", Worlds::ordinary);
        int[] bad = {0, 6, -1, LEAST, MOST};
        for (int n : bad) b.bad("BAD: a FINDING (1 .. 5): " + n, x -> x.findings(n));
        b.answers("How often a FINDING was answered: 1", 1, x -> x.findings(1));
        b.answers("How often a FINDING was answered: none yet", 0, x -> x.findings(5));
        b.promise("promise 31, findings", Worlds::empty);
        b.holds("How often a FINDING was answered: each by itself", (x, due) -> {
            Checks.unknown(x, "1");
            for (int i = 0; i < 2; i++) x.tear(0);
            for (int i = 0; i < 3; i++) x.lay(3, 1, 'a');
            for (int i = 0; i < 4; i++) x.mark(0, 1);
            for (int i = 0; i < 5; i++) x.mean(0);
            for (int i = 0; i < 6; i++) x.sheet(0, -1);
            for (int f = 1; f <= 5; f++) due.is(x.findings(f), f + 1);
        });
        b.holds("How often a FINDING was answered: 400 times", (x, due) -> {
            for (int i = 0; i < 400; i++) x.tear(i % 4);
            due.is(x.findings(1), 400);
        });
        b.holds("How often a FINDING was answered: BAD is none", (x, due) -> {
            x.tear(4);
            x.findings(0);
            for (int f = 1; f <= 5; f++) due.is(x.findings(f), 0);
        });
    }

    /** h = 17; then h = 31 h + v for each v, as long numbers that wrap. */
    private static long hashed(List<Integer> all) {
        BigInteger h = BigInteger.valueOf(17);
        for (int v : all) h = h.multiply(BigInteger.valueOf(31)).add(BigInteger.valueOf(v));
        return h.longValue();
    }

    private static long hashed(int... all) {
        List<Integer> list = new ArrayList<>();
        for (int v : all) list.add(v);
        return hashed(list);
    }

    private static void digest() {
        b.promise("promise 32, digest", Worlds::empty);
        b.answers("no TEXTS, each SHEET missing: -1", hashed(0, 0, 0, 0, -1, -1, -1, -1), x -> x.digest());
        b.answers("a SHEET without signs: its size 0", hashed(0, 0, 0, 0, -1, 0, -1, -1), x -> x.sheet(1, 0) + x.digest());
        b.holds("of each SHEET its size and signs", (x, due) -> {
            Checks.write(x, 0, "a");
            Checks.write(x, 3, "[B");
            due.is(x.digest(), hashed(0, 0, 0, 0, 1, 'a', -1, -1, 2, '[', 'B'));
        });
        b.holds("signs are bytes: from -128 to 127", (x, due) -> {
            x.sheet(2, 4);
            x.lay(2, 0, 127);
            x.lay(2, 1, 128);
            x.lay(2, 2, 255);
            x.lay(2, 3, 256);
            due.is(x.digest(), hashed(0, 0, 0, 0, -1, -1, 4, 127, -128, -1, 0, -1));
        });
        b.holds("a SHEET that is torn: -1, without signs", (x, due) -> {
            Checks.write(x, 0, "a");
            x.tear(0);
            due.is(x.digest(), hashed(0, 0, 0, 0, -1, -1, -1, -1));
        });
        b.holds("a SHEET that is shorter than before: no sign behind it", (x, due) -> {
            Checks.write(x, 0, "abc");
            x.sheet(0, 1);
            due.is(x.digest(), hashed(0, 0, 0, 0, 1, 32, -1, -1, -1));
        });
        b.holds("a TEXT without FEATURES: told() 0 to 4", (x, due) -> {
            Checks.write(x, 0, "a [b] c!");
            x.text(1, 0, 5, 0);
            x.tear(0);
            due.is(x.digest(), hashed(1, 1, 0, 0, 1, 5, 2, 3, 1, -1, -1, -1, -1));
        });
        b.holds("WRITER NONE is -9 there", (x, due) -> {
            x.sheet(0, 0);
            x.text(3, 0, 5, 0);
            x.tear(0);
            due.is(x.digest(), hashed(1, 1, 0, 0, 3, -9, 0, 0, 0, -1, -1, -1, -1));
        });
        b.holds("-1 once for all this: WITHDRAWN", (x, due) -> {
            x.feature(1, 1);
            x.feature(1, 2);
            Checks.known(x, 2, "a a b");
            Checks.known(x, 3, "bb");
            x.tear(3);
            due.is(x.digest(), hashed(2, 2, 2, 0, 1, 2, 3, 3, 0, 3, 0, 1, 3, 1, 2, 0, 0, 1, -1, -1, -1, -1));
            x.withdraw(0);
            due.is(x.digest(), hashed(2, 1, 2, 0, -1, 1, 3, 1, 2, 0, 0, 1, -1, -1, -1, -1));
            x.withdraw(1);
            due.is(x.digest(), hashed(2, 0, 2, 0, -1, -1, -1, -1, -1, -1));
        });
        b.holds("count() 3: the sort of FARNESS", (x, due) -> {
            x.sort(1);
            due.is(x.digest(), hashed(0, 0, 0, 1, -1, -1, -1, -1));
        });
    }

    private static void digestWraps() {
        b.promise("promise 32, digest", Worlds::empty);
        b.holds("a long that wraps: 800 signs, 14 TEXTS, 12 FEATURES", (x, due) -> {
            for (int f = 0; f < 12; f++) x.feature(0, 'a' + f);
            for (int s = 0; s < 4; s++) x.sheet(s, 200);
            for (int i = 0; i < 200; i++) x.lay(0, i, 'a' + i % 26);
            for (int s = 1; s < 4; s++) x.copy(0, 0, s, 0, 200);
            for (int t = 0; t < 14; t++) x.text(2, t % 4, t % 6, t);
            due.is(x.digest(), hashed(allOf(x)));
        });
        b.promise("promise 32, digest", Worlds::ordinary);
        b.holds("it changes nothing", (x, due) -> {
            long first = x.digest();
            due.is(x.digest(), first);
            due.is(x.finding(), 3);
            due.is(x.asked(), 2010);
        });
        b.holds("what is refused changes nothing of it", (x, due) -> {
            long first = x.digest();
            due.is(x.text(4, 0, 0, 0), BAD);
            due.is(x.text(0, 2, 0, 0), FINDING);
            due.is(x.feature(3, 1), FINDING);
            due.is(x.copy(0, 0, 3, 0, 8), FINDING);
            due.is(x.digest(), first);
        });
    }

    /** Each sheet, and so each text, has the letters a to z again and again to its 200th sign. */
    private static List<Integer> allOf(WhoseHand x) {
        List<Integer> all = new ArrayList<>();
        for (int what = 0; what < 4; what++) all.add(x.count(what));
        for (int t = 0; t < 14; t++) {
            for (int what = 0; what < 5; what++) all.add(x.told(t, what));
            // A letter that stands eight times among 200, or seven times.
            for (int f = 0; f < 12; f++) all.add(f < 200 % 26 ? 8 : 7);
        }
        for (int s = 0; s < 4; s++) {
            all.add(200);
            for (int i = 0; i < 200; i++) all.add('a' + i % 26);
        }
        return all;
    }
}
