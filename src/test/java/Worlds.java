/** Objects that the tests of sentences begin with. */
final class Worlds {
    private Worlds() {
    }

    static void empty(WhoseHand x) {
    }

    /**
     * Sheets with words, without signs, missing, without words; a text of each kind (0 to 3), one that is
     * withdrawn (4) and one without words (5); a feature of each sort (0 to 3). Writers 0 and 1 have a hand,
     * of one text each. Some findings, a parting, a tree and shuffles have been.
     */
    static void ordinary(WhoseHand x) {
        Checks.write(x, 0, "Ab, ab [cd] c!");
        x.sheet(1, 0);
        Checks.unknown(x, "a bb ccc");
        Checks.known(x, 0, "a a bb");
        old(x, 1, 1850, "bb ccc");
        joint(x, "a bb, ccc");
        Checks.known(x, 0, "a");
        x.withdraw(4);
        Checks.unknown(x, "1 [a]");
        x.feature(0, ',');
        x.feature(1, 2);
        x.feature(2, 'c');
        x.feature(3, 0);
        x.shuffle(1, 0, 1);
        x.part(0, 1, 0, 1, 10);
        x.tree();
        x.tear(2);
        x.mark(0, 1);
        Checks.write(x, 3, "1, [ab]");
    }

    static void ofFourteenTexts(WhoseHand x) {
        ordinary(x);
        for (int t = 6; t < 14; t++) x.text(0, 0, 0, 0);
    }

    static void ofTwelveFeatures(WhoseHand x) {
        ordinary(x);
        for (int f = 4; f < 12; f++) x.feature(1, f);
    }

    static int old(WhoseHand x, int writer, int year, String signs) {
        Checks.write(x, 3, signs);
        return x.text(2, 3, writer, year);
    }

    static int joint(WhoseHand x, String signs) {
        Checks.write(x, 3, signs);
        return x.text(3, 3, 0, 0);
    }
}
