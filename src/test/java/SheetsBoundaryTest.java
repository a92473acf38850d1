/** One test for each boundary that the document names of new objects and sheets: promises 1 to 5. */
public final class SheetsBoundaryTest {
    private static final int MOST = Boundaries.MOST, LEAST = Boundaries.LEAST;
    private static final int BAD = WhoseHand.BAD, FINDING = WhoseHand.FINDING, NONE = WhoseHand.NONE;
    private static final Boundaries b = new Boundaries("SheetsBoundaryTest");

    public static void main(String[] args) {
        newObject();
        newObjectTells();
        sheet();
        lay();
        layCutToAByte();
        tear();
        copy();
        copyRefused();
        copyBeyond();
        b.end();
    }

    private static void newObject() {
        b.promise("promise 1, a new object", Worlds::empty);
        for (int i = 0; i < 4; i++) {
            int s = i;
            b.nothing("No SHEETS: tear(" + s + ")", x -> x.tear(s));
            b.nothing("No SHEETS: lay on " + s, x -> x.lay(s, 0, 'a'));
            b.nothing("No SHEETS: copy of " + s, x -> x.copy(s, 0, s, 0, 0));
            b.nothing("No SHEETS: text of " + s, x -> x.text(0, s, 0, 0));
            b.nothing("No SHEETS: feature of " + s, x -> x.feature(3, s));
        }
        b.bad("No TEXTS: told(0, 0)", x -> x.told(0, 0));
        b.answers("No TEXTS: ever", 0, x -> x.count(0));
        b.answers("No TEXTS: there", 0, x -> x.count(1));
        b.answers("No TEXTS: the first one's number", 0, x -> x.text(0, x.sheet(0, 0), 0, 0));
        b.answers("No TEXTS: none right", 0, x -> x.trial(0));
        b.answers("No TEXTS: none wrong", 0, x -> x.trial(1));
        b.answers("No TEXTS: none not asked", 0, x -> x.trial(2));
        b.answers("No TEXTS: none taken", 0, x -> x.taken(0, 0));
        b.answers("No TEXTS: no join", 0, x -> x.tree());
        b.holds("No TEXTS: no WRITER has a HAND", (x, due) -> {
            x.feature(1, 1);
            for (int w = 0; w < 6; w++) due.is(x.hand(0, w), FINDING);
            due.is(x.findings(4), 6);
        });
        b.answers("No FEATURES: how many", 0, x -> x.count(2));
        b.answers("No FEATURES: the first one's number", 0, x -> x.feature(1, 1));
        b.bad("No FEATURES: hand(0, 0)", x -> x.hand(0, 0));
        b.bad("No FEATURES: shuffle(0, 0, 1)", x -> x.shuffle(0, 0, 1));
    }

    private static void newObjectTells() {
        b.promise("promise 1, a new object", Worlds::empty);
        b.answers("FARNESS by sort 0 at first", 0, x -> x.sort(1));
        b.answers("asked(): 0 before", 0, x -> x.asked());
        b.answers("finding(): 0 before any", 0, x -> x.finding());
        b.holds("findings(): 0 before any", (x, due) -> {
            for (int f = 1; f <= 5; f++) due.is(x.findings(f), 0);
        });
        b.none("window(0) before any part()", x -> x.window(0));
        b.none("join(0, 0) before any tree()", x -> x.join(0, 0));
        b.holds("an object knows nothing of another one", (x, due) -> {
            Worlds.ordinary(x);
            WhoseHand y = new WhoseHand();
            due.is(y.count(0), 0);
            due.is(y.count(2), 0);
            due.is(y.finding(), 0);
            due.is(y.asked(), 0);
            due.is(y.window(0), NONE);
            due.is(y.join(0, 0), NONE);
            due.is(y.tear(0), FINDING);
            due.is(x.tear(0), 1);
        });
        b.holds("used for at most 512 calls: the 512th still answers", (x, due) -> {
            due.is(x.sheet(0, 200), 200);
            for (int call = 2; call < 512; call++) x.lay(0, call % 200, 'a');
            due.is(x.lay(0, 199, 'b'), 1000 + 'a');
        });
    }

    private static void sheet() {
        b.promise("promise 2, sheet", Worlds::ordinary);
        b.answers("SHEETS 0 .. 3: the first", 5, x -> x.sheet(0, 5));
        b.answers("SHEETS 0 .. 3: the last", 5, x -> x.sheet(3, 5));
        b.answers("rows of 0: none", 0, x -> x.sheet(2, 0));
        b.answers("rows of 1", 1, x -> x.sheet(2, 1));
        b.answers("rows to 200", 200, x -> x.sheet(2, 200));
        b.holds("A SHEET is there, without signs", (x, due) -> {
            due.is(x.tear(2), FINDING);
            due.is(x.sheet(2, 0), 0);
            due.is(x.tear(2), 1);
        });
        b.holds("with n signs 32 (blanks): each of 200", (x, due) -> {
            due.is(x.sheet(2, 200), 200);
            for (int i = 0; i < 200; i++) due.is(x.lay(2, i, 'a'), 1032);
            due.is(x.lay(2, 200, 'a'), FINDING);
        });
        b.holds("with n signs 32 (blanks): also if the SHEET was there", (x, due) -> {
            due.is(x.sheet(0, 14), 14);
            for (int i = 0; i < 14; i++) due.is(x.lay(0, i, 'a'), 1032);
        });
        b.holds("with n signs, fewer than there were", (x, due) -> {
            due.is(x.sheet(0, 3), 3);
            due.is(x.lay(0, 2, 'a'), 1032);
            due.is(x.lay(0, 3, 'a'), FINDING);
        });
        b.holds("with n signs, more than there were", (x, due) -> {
            due.is(x.sheet(0, 15), 15);
            due.is(x.lay(0, 14, 'a'), 1032);
            due.is(x.lay(0, 15, 'a'), FINDING);
        });
        b.bad("BAD: a SHEET below 0", x -> x.sheet(-1, 1));
        b.bad("BAD: a SHEET above 3", x -> x.sheet(4, 1));
        b.bad("BAD: the least SHEET", x -> x.sheet(LEAST, 1));
        b.bad("BAD: the greatest SHEET", x -> x.sheet(MOST, 1));
        b.bad("BAD: also n above 200: 201", x -> x.sheet(0, 201));
        b.bad("BAD: also n above 200: the greatest", x -> x.sheet(0, MOST));
        b.size("SIZE: fewer than none: -1", x -> x.sheet(0, -1));
        b.size("SIZE: fewer than none: the least", x -> x.sheet(0, LEAST));
        b.size("SIZE of a SHEET that is missing", x -> x.sheet(2, -1));
        b.bad("BAD ahead of SIZE", x -> x.sheet(4, -1));
    }

    private static void lay() {
        b.promise("promise 3, lay", Worlds::ordinary);
        b.answers("what it was, and 1000 more: the first sign", 1000 + 'A', x -> x.lay(0, 0, 'x'));
        b.answers("what it was, and 1000 more: the last sign", 1000 + '!', x -> x.lay(0, 13, 'x'));
        b.holds("Sign i of a SHEET is c: it alone", (x, due) -> {
            due.is(x.lay(0, 1, 'x'), 1000 + 'b');
            due.is(x.lay(0, 0, 'A'), 1000 + 'A');
            due.is(x.lay(0, 1, 'x'), 1000 + 'x');
            due.is(x.lay(0, 2, ','), 1000 + ',');
        });
        b.bad("BAD: a SHEET below 0", x -> x.lay(-1, 0, 'a'));
        b.bad("BAD: a SHEET above 3", x -> x.lay(4, 0, 'a'));
        b.bad("BAD: the least SHEET", x -> x.lay(LEAST, 0, 'a'));
        b.bad("BAD: the greatest SHEET", x -> x.lay(MOST, 0, 'a'));
        b.bad("BAD ahead of BEYOND", x -> x.lay(4, -1, 'a'));
        b.nothing("NOTHING: the SHEET is missing", x -> x.lay(2, 0, 'a'));
        b.nothing("NOTHING ahead of BEYOND: below", x -> x.lay(2, -1, 'a'));
        b.nothing("NOTHING ahead of BEYOND: above", x -> x.lay(2, 200, 'a'));
        b.beyond("BEYOND: the place behind the last", x -> x.lay(0, 14, 'a'));
        b.beyond("BEYOND: a place that another SHEET had", x -> x.lay(0, 199, 'a'));
        b.beyond("BEYOND: a place below 0", x -> x.lay(0, -1, 'a'));
        b.beyond("BEYOND: the least place", x -> x.lay(0, LEAST, 'a'));
        b.beyond("BEYOND: the greatest place", x -> x.lay(0, MOST, 'a'));
        b.beyond("BEYOND: a SHEET without signs", x -> x.lay(1, 0, 'a'));
        b.holds("BEYOND: the place behind the 200th", (x, due) -> {
            x.sheet(2, 200);
            due.is(x.lay(2, 199, 'a'), 1032);
            due.is(x.lay(2, 200, 'a'), FINDING);
            due.is(x.finding(), 2);
        });
    }

    private static void layCutToAByte() {
        b.promise("promise 3, lay", Worlds::ordinary);
        int[][] cuts = {{0, 0}, {1, 1}, {127, 127}, {128, -128}, {255, -1}, {256, 0}, {256 + 'a', 'a'}, {-1, -1},
            {-128, -128}, {-129, 127}, {-256, 0}, {65536 + 7, 7}, {MOST, -1}, {LEAST, 0}, {LEAST + 200, -56}};
        for (int[] cut : cuts) {
            b.holds("c, cut to a byte: " + cut[0], (x, due) -> {
                due.is(x.lay(0, 0, cut[0]), 1000 + 'A');
                due.is(x.lay(0, 0, 'a'), 1000 + cut[1]);
            });
        }
    }

    private static void tear() {
        b.promise("promise 4, tear", Worlds::ordinary);
        b.answers("A SHEET is missing: 1: the first", 1, x -> x.tear(0));
        b.answers("A SHEET is missing: 1: the last", 1, x -> x.tear(3));
        b.answers("A SHEET is missing: 1: one without signs", 1, x -> x.tear(1));
        b.holds("A SHEET is missing: it alone, for each call", (x, due) -> {
            due.is(x.tear(0), 1);
            due.is(x.tear(0), FINDING);
            due.is(x.lay(0, 0, 'a'), FINDING);
            due.is(x.text(0, 0, 0, 0), FINDING);
            due.is(x.feature(3, 0), FINDING);
            due.is(x.copy(0, 0, 3, 0, 0), FINDING);
            due.is(x.findings(1), 6);
            due.is(x.lay(3, 0, '1'), 1000 + '1');
        });
        b.holds("A SHEET that was torn comes back blank", (x, due) -> {
            x.tear(0);
            due.is(x.sheet(0, 2), 2);
            due.is(x.lay(0, 0, 'a'), 1032);
            due.is(x.lay(0, 1, 'a'), 1032);
        });
        b.bad("BAD: a SHEET below 0", x -> x.tear(-1));
        b.bad("BAD: a SHEET above 3", x -> x.tear(4));
        b.bad("BAD: the least SHEET", x -> x.tear(LEAST));
        b.bad("BAD: the greatest SHEET", x -> x.tear(MOST));
        b.nothing("NOTHING: the SHEET is missing", x -> x.tear(2));
    }

    private static void dueSigns(WhoseHand x, Boundaries.Due due, int s, String signs) {
        for (int i = 0; i < signs.length(); i++) due.is(x.lay(s, i, signs.charAt(i)), 1000 + signs.charAt(i));
        due.is(x.lay(s, signs.length(), 'a'), FINDING);
    }

    private static void copy() {
        b.promise("promise 5, copy", Worlds::ordinary);
        b.holds("n signs come to those of another one", (x, due) -> {
            due.is(x.copy(0, 4, 3, 1, 2), 1);
            dueSigns(x, due, 3, "1ab[ab]");
            dueSigns(x, due, 0, "Ab, ab [cd] c!");
        });
        b.holds("from the first to the last sign", (x, due) -> {
            due.is(x.copy(3, 0, 0, 7, 7), 1);
            dueSigns(x, due, 0, "Ab, ab 1, [ab]");
        });
        b.holds("from the last to the first sign", (x, due) -> {
            due.is(x.copy(0, 13, 3, 0, 1), 1);
            dueSigns(x, due, 3, "!, [ab]");
        });
        b.holds("perhaps itself, as if taken ahead: forth", (x, due) -> {
            due.is(x.copy(3, 0, 3, 1, 6), 1);
            dueSigns(x, due, 3, "11, [ab");
        });
        b.holds("perhaps itself, as if taken ahead: back", (x, due) -> {
            due.is(x.copy(3, 1, 3, 0, 6), 1);
            dueSigns(x, due, 3, ", [ab]]");
        });
        b.holds("perhaps itself, to the same place", (x, due) -> {
            due.is(x.copy(3, 0, 3, 0, 7), 1);
            dueSigns(x, due, 3, "1, [ab]");
        });
        b.holds("no sign: nothing changes", (x, due) -> {
            due.is(x.copy(0, 0, 3, 0, 0), 1);
            dueSigns(x, due, 3, "1, [ab]");
        });
        b.answers("no sign, at the ends of both", 1, x -> x.copy(0, 14, 3, 7, 0));
        b.answers("no sign, of SHEETS without signs", 1, x -> x.copy(1, 0, 1, 0, 0));
        b.holds("200 signs", (x, due) -> {
            x.sheet(1, 200);
            x.sheet(2, 200);
            x.lay(1, 0, 'a');
            x.lay(1, 199, 'z');
            due.is(x.copy(1, 0, 2, 0, 200), 1);
            due.is(x.lay(2, 0, 0), 1000 + 'a');
            due.is(x.lay(2, 199, 0), 1000 + 'z');
        });
        b.holds("a byte that is below 0 comes as it is", (x, due) -> {
            x.lay(0, 0, 200);
            due.is(x.copy(0, 0, 3, 0, 1), 1);
            due.is(x.lay(3, 0, 0), 944);
        });
    }

    private static void copyRefused() {
        b.promise("promise 5, copy", Worlds::ordinary);
        int[] bad = {-1, 4, LEAST, MOST};
        for (int s : bad) {
            b.bad("BAD: of SHEET " + s, x -> x.copy(s, 0, 0, 0, 1));
            b.bad("BAD: to SHEET " + s, x -> x.copy(0, 0, s, 0, 1));
        }
        b.bad("BAD ahead of SIZE", x -> x.copy(0, 0, 4, 0, -1));
        b.bad("BAD of the other SHEET ahead of NOTHING", x -> x.copy(2, 0, 4, 0, 1));
        b.bad("BAD ahead of BEYOND", x -> x.copy(-1, 0, 0, 0, 201));
        b.size("SIZE: n below 0: -1", x -> x.copy(0, 0, 3, 0, -1));
        b.size("SIZE: n below 0: the least", x -> x.copy(0, 0, 3, 0, LEAST));
        b.size("SIZE ahead of NOTHING", x -> x.copy(2, 0, 3, 0, -1));
        b.size("SIZE ahead of BEYOND", x -> x.copy(0, -1, 3, 99, -1));
        b.nothing("NOTHING: either: the one", x -> x.copy(2, 0, 0, 0, 1));
        b.nothing("NOTHING: either: the other", x -> x.copy(0, 0, 2, 0, 1));
        b.nothing("NOTHING: either: both", x -> x.copy(2, 0, 2, 0, 1));
        b.nothing("NOTHING: also of no sign", x -> x.copy(0, 0, 2, 0, 0));
        b.nothing("NOTHING ahead of BEYOND: the one", x -> x.copy(2, 0, 0, -1, 1));
        b.nothing("NOTHING ahead of BEYOND: the other", x -> x.copy(0, 14, 2, 0, 1));
    }

    private static void copyBeyond() {
        b.promise("promise 5, copy", Worlds::ordinary);
        b.beyond("BEYOND: not so many there: of the one", x -> x.copy(3, 1, 0, 0, 7));
        b.beyond("BEYOND: not so many there: of the other", x -> x.copy(0, 0, 3, 1, 7));
        b.beyond("BEYOND: not so many there: of itself", x -> x.copy(0, 0, 0, 1, 14));
        b.beyond("BEYOND: from the place behind the last", x -> x.copy(0, 14, 3, 0, 1));
        b.beyond("BEYOND: to the place behind the last", x -> x.copy(0, 0, 3, 7, 1));
        b.beyond("BEYOND: of a SHEET without signs", x -> x.copy(1, 0, 0, 0, 1));
        b.beyond("BEYOND: to a SHEET without signs", x -> x.copy(0, 0, 1, 0, 1));
        b.beyond("BEYOND: from below 0", x -> x.copy(0, -1, 3, 0, 1));
        b.beyond("BEYOND: to below 0", x -> x.copy(0, 0, 3, -1, 1));
        b.beyond("BEYOND: from the least place", x -> x.copy(0, LEAST, 3, 0, 1));
        b.beyond("BEYOND: to the least place", x -> x.copy(0, 0, 3, LEAST, 1));
        b.beyond("BEYOND: from the greatest place", x -> x.copy(0, MOST, 3, 0, 1));
        b.beyond("BEYOND: to the greatest place", x -> x.copy(0, 0, 3, MOST, 1));
        b.beyond("BEYOND: the most signs, that wrap with the place", x -> x.copy(0, 1, 3, 1, MOST));
        b.beyond("BEYOND: the most signs", x -> x.copy(0, 0, 3, 0, MOST));
        b.beyond("BEYOND: no sign, from below 0", x -> x.copy(0, -1, 3, 0, 0));
        b.beyond("BEYOND: no sign, to below 0", x -> x.copy(0, 0, 3, -1, 0));
        b.beyond("BEYOND: no sign, from a place that there is not", x -> x.copy(0, 15, 3, 0, 0));
        b.beyond("BEYOND: no sign, to a place that there is not", x -> x.copy(0, 0, 3, 8, 0));
    }
}
