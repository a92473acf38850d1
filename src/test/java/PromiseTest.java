/** Each promise by hand: ordinary inputs, the edges that the document names, wrong inputs. */
public final class PromiseTest {
    private static final Checks checks = new Checks("PromiseTest");
    private static final int MOST = Integer.MAX_VALUE, LEAST = Integer.MIN_VALUE;
    private static final int BAD = -1, FULL = -2, FINDING = -3, STATE = -4, NONE = -9;
    private static final int NOTHING = 1, BEYOND = 2, UNLIKE = 3, NOUGHT = 4, SIZE = 5;

    private static void due(String call, long got, long want) {
        checks.due(call, got, want);
    }

    /** That the call was refused by this finding, and told so once more than before. */
    private static void found(String call, WhoseHand x, int before, int got, int finding) {
        due(call, got, FINDING);
        due(call + " finding()", x.finding(), finding);
        due(call + " findings(" + finding + ")", x.findings(finding), before + 1);
    }

    private static String repeat(String signs, int n) {
        return signs.repeat(n);
    }

    public static void main(String[] args) {
        promise1NewObject();
        promise2Sheet();
        promise3Lay();
        promise4Tear();
        promise5Copy();
        promise6Text();
        promise7Told();
        quotes();
        promise8Mark();
        promise9Withdraw();
        promise10Feature();
        promise11Counts();
        countsOfWords();
        promise12Rate();
        promise13Hand();
        promise14Mean();
        promise15Sort();
        promise16Far();
        promise17From();
        promise18Nearest();
        promise19Place();
        promise20Trial();
        promise21Taken();
        promise22Impostors();
        promise23Part();
        partingOfEqualPrice();
        partingOfMostWindows();
        promise24Window();
        promise25Tree();
        treeOfGroups();
        promise26Join();
        promise27Shuffle();
        promise28Asked();
        promise29Count();
        promise30And31Findings();
        promise32Digest();
        checks.end();
    }

    private static void promise1NewObject() {
        WhoseHand x = new WhoseHand();
        for (int s = 0; s < 4; s++) due("tear(" + s + ") of a new object", x.tear(s), FINDING);
        WhoseHand y = new WhoseHand();
        due("told(0, 0) of a new object", y.told(0, 0), BAD);
        for (int what = 0; what < 4; what++) due("count(" + what + ") of a new object", y.count(what), 0);
        due("finding() of a new object", y.finding(), 0);
        for (int f = 1; f <= 5; f++) due("findings(" + f + ") of a new object", y.findings(f), 0);
        due("asked() of a new object", y.asked(), 0);
        due("window(0) of a new object", y.window(0), NONE);
        due("join(0, 0) of a new object", y.join(0, 0), NONE);
        due("tree() of a new object", y.tree(), 0);
        Checks.write(x, 0, "other");
        due("an object is not another one", y.tear(0), FINDING);
    }

    private static void promise2Sheet() {
        WhoseHand x = new WhoseHand();
        due("sheet(0, 0)", x.sheet(0, 0), 0);
        due("sheet(3, 200)", x.sheet(3, 200), 200);
        due("sheet(1, 2)", x.sheet(1, 2), 2);
        due("a new sheet's first sign", x.lay(1, 0, 'a'), 1032);
        due("a new sheet's last sign", x.lay(1, 1, 'b'), 1032);
        due("sheet(1, 3) anew", x.sheet(1, 3), 3);
        due("a sheet anew is blank", x.lay(1, 0, 'c'), 1032);
        due("a sheet anew is blank to its end", x.lay(1, 2, 'c'), 1032);
        due("sheet(-1, 1)", x.sheet(-1, 1), BAD);
        due("sheet(4, 1)", x.sheet(4, 1), BAD);
        due("sheet(LEAST, 1)", x.sheet(LEAST, 1), BAD);
        due("sheet(MOST, 1)", x.sheet(MOST, 1), BAD);
        due("sheet(1, 201)", x.sheet(1, 201), BAD);
        due("sheet(1, MOST)", x.sheet(1, MOST), BAD);
        due("sheet(4, -1)", x.sheet(4, -1), BAD);
        due("BAD is no finding", x.finding(), 0);
        found("sheet(1, -1)", x, 0, x.sheet(1, -1), SIZE);
        found("sheet(1, LEAST)", x, 1, x.sheet(1, LEAST), SIZE);
        due("a refused sheet changes nothing", x.lay(1, 2, 'd'), 1000 + 'c');
    }

    private static void promise3Lay() {
        WhoseHand x = new WhoseHand();
        found("lay on a sheet that is missing", x, 0, x.lay(0, 0, 'a'), NOTHING);
        found("lay beyond a sheet that is missing", x, 1, x.lay(0, -1, 'a'), NOTHING);
        x.sheet(0, 2);
        due("lay(0, 1, a)", x.lay(0, 1, 'a'), 1032);
        due("lay(0, 1, 300)", x.lay(0, 1, 300), 1097);
        due("300 is cut to 44", x.lay(0, 1, 127), 1044);
        due("127 stays", x.lay(0, 1, 128), 1127);
        due("128 is cut to -128", x.lay(0, 1, 255), 872);
        due("255 is cut to -1", x.lay(0, 1, -256), 999);
        due("-256 is cut to 0", x.lay(0, 1, MOST), 1000);
        due("MOST is cut to -1", x.lay(0, 1, LEAST), 999);
        due("LEAST is cut to 0", x.lay(0, 1, 1), 1000);
        due("the other sign is as it was", x.lay(0, 0, 1), 1032);
        due("lay(-1, 0, 0)", x.lay(-1, 0, 0), BAD);
        due("lay(4, 0, 0)", x.lay(4, 0, 0), BAD);
        found("lay(0, 2, 0)", x, 0, x.lay(0, 2, 0), BEYOND);
        found("lay(0, -1, 0)", x, 1, x.lay(0, -1, 0), BEYOND);
        found("lay(0, MOST, 0)", x, 2, x.lay(0, MOST, 0), BEYOND);
        found("lay(0, LEAST, 0)", x, 3, x.lay(0, LEAST, 0), BEYOND);
        x.sheet(1, 200);
        due("lay(1, 199, a)", x.lay(1, 199, 'a'), 1032);
        found("lay(1, 200, a)", x, 4, x.lay(1, 200, 'a'), BEYOND);
    }

    private static void promise4Tear() {
        WhoseHand x = new WhoseHand();
        found("tear(0) of a missing sheet", x, 0, x.tear(0), NOTHING);
        x.sheet(0, 0);
        x.sheet(1, 1);
        due("tear(0)", x.tear(0), 1);
        found("tear(0) again", x, 1, x.tear(0), NOTHING);
        due("tear(-1)", x.tear(-1), BAD);
        due("tear(4)", x.tear(4), BAD);
        due("the other sheet stays", x.lay(1, 0, 'a'), 1032);
        x.sheet(1, 2);
        x.lay(1, 1, 'z');
        x.tear(1);
        x.sheet(1, 2);
        due("what was torn does not come back", x.lay(1, 1, 'a'), 1032);
    }

    private static void promise5Copy() {
        WhoseHand x = new WhoseHand();
        Checks.write(x, 0, "abcdef");
        Checks.write(x, 1, "uvwxyz");
        due("copy(0, 1, 1, 2, 3)", x.copy(0, 1, 1, 2, 3), 1);
        dueSigns("to another sheet", x, 1, "uvbcdz");
        dueSigns("the sheet copied from", x, 0, "abcdef");
        due("copy onto itself, ahead", x.copy(0, 0, 0, 2, 4), 1);
        dueSigns("as if taken ahead", x, 0, "ababcd");
        Checks.write(x, 0, "abcdef");
        due("copy onto itself, back", x.copy(0, 2, 0, 0, 4), 1);
        dueSigns("as if taken ahead, back", x, 0, "cdefef");
        due("copy of none at the ends", x.copy(0, 6, 1, 6, 0), 1);
        due("copy of all", x.copy(0, 0, 1, 0, 6), 1);
        dueSigns("all", x, 1, "cdefef");
        due("copy(-1, ..)", x.copy(-1, 0, 0, 0, 1), BAD);
        due("copy(4, ..)", x.copy(4, 0, 0, 0, 1), BAD);
        due("copy to -1", x.copy(0, 0, -1, 0, 1), BAD);
        due("copy to 4", x.copy(0, 0, 4, 0, 1), BAD);
        due("copy to 4 of fewer than none", x.copy(0, 0, 4, 0, -1), BAD);
        found("copy of -1 signs", x, 0, x.copy(0, 0, 1, 0, -1), SIZE);
        found("copy of -1 signs of a missing sheet", x, 1, x.copy(2, 0, 1, 0, -1), SIZE);
        found("copy of a missing sheet", x, 0, x.copy(2, 0, 1, 0, 1), NOTHING);
        found("copy to a missing sheet", x, 1, x.copy(0, 0, 3, 9, 1), NOTHING);
        found("copy beyond the end", x, 0, x.copy(0, 4, 1, 0, 3), BEYOND);
        found("copy to beyond the end", x, 1, x.copy(0, 0, 1, 4, 3), BEYOND);
        found("copy from -1", x, 2, x.copy(0, -1, 1, 0, 1), BEYOND);
        found("copy to -1", x, 3, x.copy(0, 0, 1, -1, 1), BEYOND);
        found("copy of MOST", x, 4, x.copy(0, 1, 1, 1, MOST), BEYOND);
        found("copy from MOST", x, 5, x.copy(0, MOST, 1, 0, 1), BEYOND);
        found("copy to MOST", x, 6, x.copy(0, 0, 1, MOST, MOST), BEYOND);
        dueSigns("what is refused changes nothing", x, 1, "cdefef");
    }

    private static void dueSigns(String what, WhoseHand x, int s, String signs) {
        for (int i = 0; i < signs.length(); i++) {
            due(what + ", sign " + i, x.lay(s, i, signs.charAt(i)), 1000 + signs.charAt(i));
        }
    }

    private static void promise6Text() {
        WhoseHand x = new WhoseHand();
        Checks.write(x, 0, "a b");
        found("text of a missing sheet", x, 0, x.text(0, 1, 0, 0), NOTHING);
        due("text(-1, ..)", x.text(-1, 0, 0, 0), BAD);
        due("text(4, ..)", x.text(4, 0, 0, 0), BAD);
        due("text of sheet -1", x.text(0, -1, 0, 0), BAD);
        due("text of sheet 4", x.text(0, 4, 0, 0), BAD);
        due("KNOWN by -1", x.text(1, 0, -1, 0), BAD);
        due("KNOWN by 6", x.text(1, 0, 6, 0), BAD);
        due("OLD by -1", x.text(2, 0, -1, 0), BAD);
        due("OLD by 6", x.text(2, 0, 6, 0), BAD);
        due("OLD of -1", x.text(2, 0, 0, -1), BAD);
        due("OLD of 10000", x.text(2, 0, 0, 10000), BAD);
        due("KNOWN by 6 of a missing sheet", x.text(1, 1, 6, 0), BAD);
        due("a year that is not looked at", x.text(1, 0, 5, -7), 0);
        due("a writer that is not looked at", x.text(0, 0, 99, LEAST), 1);
        due("JOINT", x.text(3, 0, -4, MOST), 2);
        due("OLD of 0", x.text(2, 0, 0, 0), 3);
        due("OLD of 9999", x.text(2, 0, 5, 9999), 4);
        x.tear(0);
        due("a text stays without its sheet", x.told(0, 2), 2);
        Checks.write(x, 0, "a b c");
        due("a text stays as its sheet was", x.told(0, 2), 2);
        x.withdraw(4);
        for (int t = 5; t < 14; t++) due("text " + t, x.text(0, 0, 0, 0), t);
        due("the fifteenth text", x.text(0, 0, 0, 0), FULL);
        due("a withdrawn text leaves no room", x.count(0), 14);
        due("FULL ahead of a finding", x.text(0, 1, 0, 0), FULL);
        due("BAD ahead of FULL", x.text(4, 0, 0, 0), BAD);
        due("BAD writer ahead of FULL", x.text(1, 0, 6, 0), BAD);
        due("FULL is no finding", x.findings(NOTHING), 1);
    }

    private static void promise7Told() {
        WhoseHand x = new WhoseHand();
        Checks.write(x, 0, "Isn't it 3 o'clock? [no] ~!");
        for (int kind = 0; kind < 4; kind++) x.text(kind, 0, 4, 77);
        for (int t = 0; t < 4; t++) {
            due("told(" + t + ", 0)", x.told(t, 0), t);
            due("told(" + t + ", 1)", x.told(t, 1), t == 1 || t == 2 ? 4 : NONE);
            due("told(" + t + ", 2)", x.told(t, 2), 5);
            due("told(" + t + ", 3)", x.told(t, 3), 5 + 2 + 1 + 8 + 2);
            due("told(" + t + ", 4)", x.told(t, 4), 1);
        }
        due("told(-1, 0)", x.told(-1, 0), BAD);
        due("told(4, 0)", x.told(4, 0), BAD);
        due("told(14, 0)", x.told(14, 0), BAD);
        due("told(MOST, 0)", x.told(MOST, 0), BAD);
        due("told(0, -1)", x.told(0, -1), BAD);
        due("told(0, 5)", x.told(0, 5), BAD);
        x.withdraw(0);
        due("BAD ahead of NOTHING", x.told(0, 5), BAD);
        for (int what = 0; what < 5; what++) found("told of a withdrawn text", x, what, x.told(0, what), NOTHING);
        dueTold(x, "", 0, 0, 0);
        dueTold(x, "   ", 0, 0, 0);
        dueTold(x, repeat("a ", 100), 100, 100, 0);
        dueTold(x, repeat("Z", 200), 1, 200, 0);
        dueTold(x, "a!b\"c @z`{A}Z", 6, 12, 0);
        dueTold(x, "a" + (char) 127 + "b" + (char) 200 + "c" + (char) 0 + "d" + (char) 32, 4, 4, 0);
    }

    private static void dueTold(WhoseHand x, String signs, int words, int lettersAndMarks, int quotes) {
        int t = Checks.unknown(x, signs);
        due("WORDS of '" + signs + "'", x.told(t, 2), words);
        due("letters and MARKS of '" + signs + "'", x.told(t, 3), lettersAndMarks);
        due("QUOTES of '" + signs + "'", x.told(t, 4), quotes);
    }

    private static void quotes() {
        WhoseHand x = new WhoseHand();
        dueTold(x, "ab[cd]ef", 2, 4, 1);
        dueTold(x, "ab]cd", 2, 4, 0);
        dueTold(x, "ab[cd[ef]gh", 2, 4, 1);
        dueTold(x, "ab[cd ef gh", 1, 2, 1);
        dueTold(x, "ab[", 1, 2, 1);
        dueTold(x, "[][][", 0, 0, 3);
        dueTold(x, "[a]]b[c]", 1, 1, 2);
        dueTold(x, "[a]b]c", 2, 2, 1);
        dueTold(x, "]a[b", 1, 1, 1);
    }

    private static void promise8Mark() {
        WhoseHand x = new WhoseHand();
        Checks.write(x, 0, "one two [three]");
        for (int kind = 0; kind < 4; kind++) x.text(kind, 0, 3, 1234);
        due("mark(1, 1)", x.mark(1, 1), 3);
        due("mark(2, 1)", x.mark(2, 1), 3);
        due("mark(2, 2)", x.mark(2, 2), 1234);
        due("mark(3, 3)", x.mark(3, 3), 2);
        int before = 0;
        for (int t = 0; t < 4; t++) {
            for (int kind = 1; kind < 4; kind++) {
                if (t == kind || t == 2 && kind == 1) continue;
                found("mark(" + t + ", " + kind + ")", x, before++, x.mark(t, kind), UNLIKE);
            }
            due("mark(" + t + ", 0)", x.mark(t, 0), BAD);
        }
        due("mark(1, -1)", x.mark(1, -1), BAD);
        due("mark(1, 4)", x.mark(1, 4), BAD);
        due("mark(-1, 1)", x.mark(-1, 1), BAD);
        due("mark(4, 1)", x.mark(4, 1), BAD);
        x.withdraw(3);
        found("mark of a withdrawn text", x, 0, x.mark(3, 3), NOTHING);
        found("NOTHING ahead of UNLIKE", x, 1, x.mark(3, 1), NOTHING);
        due("BAD ahead of NOTHING", x.mark(3, 0), BAD);
    }

    private static void promise9Withdraw() {
        WhoseHand x = new WhoseHand();
        int a = Checks.known(x, 0, "aa");
        int b = Checks.known(x, 1, "bbb");
        int c = Checks.unknown(x, "bbb");
        x.feature(1, 3);
        due("nearest ahead of it", x.nearest(c), 1);
        due("withdraw", x.withdraw(b), 1);
        found("withdraw again", x, 0, x.withdraw(b), NOTHING);
        due("withdraw(-1)", x.withdraw(-1), BAD);
        due("withdraw(3)", x.withdraw(3), BAD);
        due("nearest without it", x.nearest(c), 0);
        due("its writer has no hand", x.hand(0, 1), FINDING);
        due("numbers stay", x.told(c, 2), 1);
        due("the next number", Checks.unknown(x, "b"), 3);
        due("trial without it", x.trial(0) + x.trial(1), 0);
        due("the tree is without it", x.tree(), 2);
        due("its first join is without it", x.join(0, 1), 3);
        due("a stays", x.told(a, 0), 1);
    }

    private static void promise10Feature() {
        WhoseHand x = new WhoseHand();
        int[][] bad = {{-1, 1}, {4, 1}, {0, 32}, {0, 127}, {0, '['}, {0, ']'}, {0, -1}, {1, 0}, {1, 13}, {1, -1},
            {2, '0'}, {2, '@'}, {2, '['}, {2, '`'}, {2, '{'}, {2, MOST}, {3, -1}, {3, 4}, {MOST, MOST}, {LEAST, LEAST}};
        for (int[] pair : bad) due("feature(" + pair[0] + ", " + pair[1] + ")", x.feature(pair[0], pair[1]), BAD);
        found("feature of a missing sheet", x, 0, x.feature(3, 0), NOTHING);
        x.sheet(0, 0);
        found("feature of an empty sheet", x, 0, x.feature(3, 0), SIZE);
        Checks.write(x, 0, "12, [word]");
        found("feature of a sheet that has its words in quotes", x, 1, x.feature(3, 0), SIZE);
        Checks.write(x, 0, "[a] The, end");
        int[][] good = {{0, 33}, {0, 126}, {0, '\\'}, {0, 'A'}, {1, 1}, {1, 12}, {2, 'a'}, {2, 'Z'}, {3, 0}, {0, 33}};
        for (int f = 0; f < good.length; f++) due("feature " + f, x.feature(good[f][0], good[f][1]), f);
        due("feature 10", x.feature(2, 'z'), 10);
        due("feature 11", x.feature(2, 'A'), 11);
        due("the thirteenth feature", x.feature(0, 'a'), FULL);
        due("FULL ahead of a finding", x.feature(3, 1), FULL);
        due("BAD ahead of FULL", x.feature(0, 32), BAD);
        due("BAD ahead of FULL, sort", x.feature(4, 1), BAD);
        int t = Checks.unknown(x, "the! theZ ~A a\\ th");
        int[] want = {1, 1, 1, 2, 2, 0, 2, 1, 1, 1, 1, 2};
        for (int f = 0; f < want.length; f++) due("counts(" + f + ", t)", x.counts(f, t), want[f]);
    }

    private static void promise11Counts() {
        WhoseHand x = new WhoseHand();
        int t = Checks.unknown(x, "A cat, a hat; [a rat,] Aa, 1,1");
        due("no feature yet", x.counts(0, t), BAD);
        x.feature(0, 'A');
        x.feature(0, ',');
        x.feature(0, '1');
        due("counts of a", x.counts(0, t), 6);
        due("counts of ,", x.counts(1, t), 3);
        due("counts of 1", x.counts(2, t), 2);
        int later = Checks.unknown(x, ",");
        due("counts in a later text", x.counts(1, later), 1);
        due("counts of none", x.counts(0, later), 0);
        due("counts(-1, t)", x.counts(-1, t), BAD);
        due("counts(3, t)", x.counts(3, t), BAD);
        due("counts(12, t)", x.counts(12, t), BAD);
        due("counts(0, -1)", x.counts(0, -1), BAD);
        due("counts(0, 2)", x.counts(0, 2), BAD);
        x.withdraw(t);
        found("counts in a withdrawn text", x, 0, x.counts(0, t), NOTHING);
        due("BAD ahead of NOTHING", x.counts(3, t), BAD);
    }

    private static void countsOfWords() {
        WhoseHand x = new WhoseHand();
        Checks.write(x, 0, "[no] Twelveletter, or");
        Checks.write(x, 1, "thirteenlongX");
        Checks.write(x, 2, "Th");
        x.feature(1, 11);
        x.feature(1, 12);
        x.feature(2, 'R');
        x.feature(3, 0);
        x.feature(3, 1);
        x.feature(3, 2);
        Checks.write(x, 0, "or");
        x.tear(1);
        int t = Checks.unknown(x, "elevenlette twelveLETTER twelveletterr thirteenlongy thirteenlong thirteenlongxx THIRTEENLONGz"
            + " th the t[h] hT ah");
        due("WORDS of 11 letters", x.counts(0, t), 1);
        due("WORDS of 12 and more", x.counts(1, t), 6);
        due("WORDS that end with r", x.counts(2, t), 2);
        due("the WORD of a sheet as it was", x.counts(3, t), 1);
        due("12 letters are compared, and whether they are as long", x.counts(4, t), 2);
        due("a short WORD", x.counts(5, t), 1);
        x.withdraw(t);
        int u = Checks.unknown(x, "s");
        due("one letter, of length 11", x.counts(0, u), 0);
        due("one letter, of length 12", x.counts(1, u), 0);
    }

    private static void promise12Rate() {
        WhoseHand x = new WhoseHand();
        x.feature(0, 'a');
        x.feature(1, 2);
        int t = Checks.unknown(x, "ab a ba");
        due("rate of a letter, of 5 letters", x.rate(0, t), 600);
        due("rate of a length, of 3 WORDS", x.rate(1, t), 666);
        int u = Checks.unknown(x, "12 !");
        due("rate of none of 3 marks", x.rate(0, u), 0);
        due("rate of none of no WORDS", x.rate(1, u), 0);
        int v = Checks.unknown(x, "");
        due("rate of nothing", x.rate(0, v), 0);
        due("rate(-1, t)", x.rate(-1, t), BAD);
        due("rate(2, t)", x.rate(2, t), BAD);
        due("rate(0, 3)", x.rate(0, 3), BAD);
        due("rate(0, -1)", x.rate(0, -1), BAD);
        x.withdraw(t);
        found("rate in a withdrawn text", x, 0, x.rate(0, t), NOTHING);
        due("rate of a MARK among letters", rateOfMark(x), 250);
    }

    private static int rateOfMark(WhoseHand x) {
        int f = x.feature(0, ';');
        return x.rate(f, Checks.unknown(x, "abc ; [;;;]"));
    }

    private static void promise13Hand() {
        WhoseHand x = new WhoseHand();
        x.feature(1, 1);
        x.feature(0, '.');
        found("hand of a writer without a text", x, 0, x.hand(0, 2), NOUGHT);
        Checks.known(x, 2, "a bb.");
        Checks.write(x, 0, "c dd ee ff.");
        x.text(2, 0, 2, 1900);
        due("hand of all its texts together", x.hand(0, 2), 2 * 1000 / 6);
        due("hand of marks", x.hand(1, 2), 2 * 1000 / 12);
        Checks.known(x, 3, "...");
        due("hand without words", x.hand(0, 3), 0);
        due("hand(-1, 2)", x.hand(-1, 2), BAD);
        due("hand(2, 2)", x.hand(2, 2), BAD);
        due("hand(0, -1)", x.hand(0, -1), BAD);
        due("hand(0, 6)", x.hand(0, 6), BAD);
        x.withdraw(1);
        due("hand without a withdrawn text", x.hand(0, 2), 500);
        x.withdraw(0);
        found("hand without any", x, 1, x.hand(0, 2), NOUGHT);
    }

    private static void promise14Mean() {
        WhoseHand x = new WhoseHand();
        int t = Checks.unknown(x, "abc, de [fghijklmnop] f 1");
        due("mean of 3, 2, 1", x.mean(t), 2);
        due("mean of 3, 2, 2", x.mean(Checks.unknown(x, "abc de fg")), 2);
        due("mean of 200", x.mean(Checks.unknown(x, repeat("q", 200))), 200);
        int none = Checks.unknown(x, "1 2 [a]");
        found("mean of no WORDS", x, 0, x.mean(none), NOUGHT);
        due("mean(-1)", x.mean(-1), BAD);
        due("mean(4)", x.mean(4), BAD);
        x.withdraw(none);
        found("NOTHING ahead of NOUGHT", x, 0, x.mean(none), NOTHING);
    }

    private static void promise15Sort() {
        WhoseHand x = new WhoseHand();
        due("sort(0) at first", x.sort(0), 0);
        due("sort(1)", x.sort(1), 0);
        due("sort(2)", x.sort(2), BAD);
        due("sort(-1)", x.sort(-1), BAD);
        due("sort(1) again", x.sort(1), 1);
        due("count(3)", x.count(3), 1);
        due("sort(0)", x.sort(0), 1);
        due("count(3) again", x.count(3), 0);
    }

    private static void promise16Far() {
        WhoseHand x = new WhoseHand();
        int a = Checks.unknown(x, "aab bb");
        int b = Checks.known(x, 0, "abb b c");
        due("far without features", x.far(a, b), 0);
        x.feature(0, 'a');
        x.feature(1, 1);
        due("far by the sum", x.far(a, b), 200 + 666);
        due("far is as far back", x.far(b, a), 866);
        due("far from itself", x.far(a, a), 0);
        x.sort(1);
        due("far by the squares", x.far(a, b), 200 * 200 + 666 * 666);
        due("far(-1, a)", x.far(-1, a), BAD);
        due("far(a, 2)", x.far(a, 2), BAD);
        due("far(2, a)", x.far(2, a), BAD);
        x.withdraw(b);
        found("far to a withdrawn text", x, 0, x.far(a, b), NOTHING);
        found("far from a withdrawn text", x, 1, x.far(b, a), NOTHING);
        due("BAD ahead of NOTHING", x.far(b, 2), BAD);
        farthest();
    }

    private static void farthest() {
        WhoseHand x = new WhoseHand();
        for (int f = 0; f < 12; f++) x.feature(1, 1);
        int a = Checks.unknown(x, "a");
        int b = Checks.unknown(x, "bb");
        x.sort(1);
        due("the farthest there is", x.far(a, b), 12000000);
    }

    private static void promise17From() {
        WhoseHand x = new WhoseHand();
        x.feature(1, 1);
        int a = Checks.known(x, 0, "a a");
        int b = Checks.known(x, 0, "bb b");
        int c = Checks.unknown(x, "ccc");
        due("from the hand of both", x.from(c, 0), 750);
        due("from the other one only", x.from(a, 0), 500);
        found("from a writer that has no hand", x, 0, x.from(c, 1), NOUGHT);
        int d = Checks.known(x, 1, "d dd dd");
        found("from a writer that has no other", x, 1, x.from(d, 1), NOUGHT);
        due("from another writer", x.from(d, 0), 750 - 333);
        x.sort(1);
        due("from by the squares", x.from(d, 0), 417 * 417);
        due("from(-1, 0)", x.from(-1, 0), BAD);
        due("from(4, 0)", x.from(4, 0), BAD);
        due("from(c, -1)", x.from(c, -1), BAD);
        due("from(c, 6)", x.from(c, 6), BAD);
        x.withdraw(b);
        due("from a hand without a withdrawn text", x.from(c, 0), 1000000);
        found("from of a withdrawn text, ahead of NOUGHT", x, 0, x.from(b, 5), NOTHING);
    }

    private static void promise18Nearest() {
        WhoseHand x = new WhoseHand();
        x.feature(1, 1);
        int t = Checks.unknown(x, "a bb");
        due("nearest of none", x.nearest(t), NONE);
        due("NONE is no finding", x.finding(), 0);
        int far = Checks.known(x, 5, "aa");
        due("nearest of one", x.nearest(t), 5);
        due("nearest to the only text of all", x.nearest(far), NONE);
        Checks.known(x, 4, "a");
        due("of two as far the least", x.nearest(t), 4);
        Checks.known(x, 2, "a b cc");
        due("the least far", x.nearest(t), 2);
        Checks.known(x, 3, "aa a");
        due("the very like", x.nearest(t), 3);
        due("nearest(-1)", x.nearest(-1), BAD);
        due("nearest(5)", x.nearest(5), BAD);
        x.withdraw(t);
        found("nearest to a withdrawn text", x, 0, x.nearest(t), NOTHING);
        nearestBySorts();
    }

    private static void nearestBySorts() {
        WhoseHand x = new WhoseHand();
        x.feature(1, 1);
        x.feature(1, 2);
        x.feature(1, 3);
        int t = Checks.unknown(x, "dddd dddd dddd dddd dddd");
        Checks.known(x, 0, "a bb dddd dddd dddd");
        Checks.known(x, 1, "ccc ccc dddd dddd dddd");
        due("of two as far by the sum the least", x.nearest(t), 0);
        Checks.known(x, 2, "a bb ccc dddd dddd");
        x.sort(1);
        due("far by the squares, 0", x.from(t, 0), 200 * 200 * 2);
        due("far by the squares, 1", x.from(t, 1), 400 * 400);
        due("nearest by the squares", x.nearest(t), 0);
        due("place by the squares, 2", x.place(t, 2), 1);
        x.sort(0);
        due("place by the sum, 2", x.place(t, 2), 2);
    }

    private static void promise19Place() {
        WhoseHand x = new WhoseHand();
        x.feature(1, 1);
        int t = Checks.known(x, 1, "a bb");
        Checks.known(x, 5, "a");
        Checks.known(x, 3, "bb");
        Checks.known(x, 4, "a bb");
        Checks.known(x, 0, "cc");
        due("place of the nearest", x.place(t, 4), 0);
        due("place of the least of like ones", x.place(t, 0), 1);
        due("place of the next of like ones", x.place(t, 3), 2);
        due("place of the last", x.place(t, 5), 3);
        found("place of a writer without another text", x, 0, x.place(t, 1), NOUGHT);
        found("place of a writer without a text", x, 1, x.place(t, 2), NOUGHT);
        due("place(-1, 0)", x.place(-1, 0), BAD);
        due("place(5, 0)", x.place(5, 0), BAD);
        due("place(t, -1)", x.place(t, -1), BAD);
        due("place(t, 6)", x.place(t, 6), BAD);
        x.withdraw(t);
        found("NOTHING ahead of NOUGHT", x, 0, x.place(t, 2), NOTHING);
    }

    private static void promise20Trial() {
        WhoseHand x = new WhoseHand();
        x.feature(1, 1);
        for (int what = 0; what < 3; what++) due("trial of none", x.trial(what), 0);
        Checks.known(x, 0, "a");
        dueTrial(x, "one alone", 0, 0, 1);
        Checks.known(x, 0, "a b");
        dueTrial(x, "two by one", 2, 0, 0);
        Checks.unknown(x, "a");
        Checks.write(x, 0, "bb");
        x.text(3, 0, 0, 0);
        dueTrial(x, "unknown ones and joint ones are not tried", 2, 0, 0);
        x.text(2, 0, 1, 1700);
        dueTrial(x, "an old one that has no other is wrong", 2, 1, 0);
        x.text(2, 0, 1, 1701);
        dueTrial(x, "two old ones", 3 - 1 + 1 + 1, 0, 0);
        due("trial(-1)", x.trial(-1), BAD);
        due("trial(3)", x.trial(3), BAD);
        x.withdraw(0);
        dueTrial(x, "without a withdrawn one", 2, 1, 0);
    }

    private static void dueTrial(WhoseHand x, String what, int right, int wrong, int notAsked) {
        due(what + ": right", x.trial(0), right);
        due(what + ": wrong", x.trial(1), wrong);
        due(what + ": not asked", x.trial(2), notAsked);
    }

    private static void promise21Taken() {
        WhoseHand x = new WhoseHand();
        x.feature(1, 1);
        due("taken of none", x.taken(0, 0), 0);
        Checks.known(x, 0, "a");
        Checks.known(x, 0, "aa");
        Checks.known(x, 2, "aa");
        Checks.write(x, 0, "a");
        x.text(2, 0, 5, 1);
        Checks.unknown(x, "a");
        int[][] want = new int[6][6];
        want[0][5] = 1;
        want[0][2] = 1;
        want[2][0] = 1;
        want[5][0] = 1;
        for (int a = 0; a < 6; a++) {
            for (int b = 0; b < 6; b++) due("taken(" + a + ", " + b + ")", x.taken(a, b), want[a][b]);
        }
        due("taken(-1, 0)", x.taken(-1, 0), BAD);
        due("taken(6, 0)", x.taken(6, 0), BAD);
        due("taken(0, -1)", x.taken(0, -1), BAD);
        due("taken(0, 6)", x.taken(0, 6), BAD);
        x.withdraw(0);
        due("taken without a withdrawn one", x.taken(0, 5), 0);
        due("the other one now", x.taken(0, 2), 1);
        due("right ones count too", takenRight(), 2);
    }

    private static int takenRight() {
        WhoseHand x = new WhoseHand();
        Checks.known(x, 3, "a");
        Checks.known(x, 3, "b");
        return x.taken(3, 3);
    }

    private static void promise22Impostors() {
        WhoseHand x = new WhoseHand();
        int t = Checks.unknown(x, "aa b");
        due("STATE: no features", x.impostors(t, 0, 1, 0), STATE);
        due("BAD ahead of STATE", x.impostors(t, 6, 1, 0), BAD);
        x.withdraw(t);
        due("STATE ahead of NOTHING", x.impostors(t, 0, 1, 0), STATE);
        due("STATE is no finding", x.finding(), 0);
        x.feature(0, 'a');
        x.feature(0, 'b');
        x.feature(0, 'c');
        found("impostors of a withdrawn text", x, 0, x.impostors(t, 0, 1, 0), NOTHING);
        int u = Checks.known(x, 1, "aab");
        Checks.known(x, 0, "aac");
        Checks.known(x, 1, "aabb");
        found("a writer without a hand", x, 0, x.impostors(u, 2, 1, 0), NOUGHT);
        due("impostors(-1, ..)", x.impostors(-1, 0, 1, 0), BAD);
        due("impostors(4, ..)", x.impostors(4, 0, 1, 0), BAD);
        due("impostors of writer -1", x.impostors(u, -1, 1, 0), BAD);
        due("no trial", x.impostors(u, 0, 0, 0), BAD);
        due("201 trials", x.impostors(u, 0, 201, 0), BAD);
        long[] seeds = {0, 1, -1, 7, Long.MAX_VALUE, Long.MIN_VALUE, 123456789012345L};
        for (long seed : seeds) dueImpostors(x, u, seed);
        x.sort(1);
        due("impostors by the squares", x.impostors(u, 0, 200, 7), impostorsOneBySquares(7));
    }

    /**
     * By the rates 666/333/0 of u, 666/0/333 of writer 0 and 500/500/0 of writer 1's other text: none of the
     * three features is not the first one alone, nor is it as if both were as far.
     */
    private static void dueImpostors(WhoseHand x, int u, long seed) {
        int won = 0;
        long s = seed;
        for (int n = 1; n <= 200; n++) {
            s = s * 1103515245L + 12345L;
            int bits = (int) (s >>> 16) & 7;
            if (bits == 0) bits = 7;
            int farZero = ((bits & 2) != 0 ? 333 : 0) + ((bits & 4) != 0 ? 333 : 0);
            int farOne = ((bits & 1) != 0 ? 166 : 0) + ((bits & 2) != 0 ? 167 : 0);
            if (farZero <= farOne) won++;
            if (n != 1 && n != 13 && n != 200) continue;
            due("won by 0, seed " + seed + ", of " + n, x.impostors(u, 0, n, seed), won);
            due("won by 1, seed " + seed + ", of " + n, x.impostors(u, 1, n, seed), n - won);
        }
    }

    /** Writer 0 wins by the first feature alone only. */
    private static int impostorsOneBySquares(long seed) {
        int won = 0;
        long s = seed;
        for (int n = 0; n < 200; n++) {
            s = s * 1103515245L + 12345L;
            if ((s >>> 16 & 7) == 1) won++;
        }
        return won;
    }

    private static void promise23Part() {
        WhoseHand x = new WhoseHand();
        x.feature(0, 'a');
        x.feature(1, 1);
        Checks.known(x, 0, "a a");
        Checks.known(x, 2, "bb bb");
        int t = Checks.unknown(x, "a [q q] c! dd dd e");
        due("part by 1", x.part(t, 1, 0, 2, 0), 2);
        due("its price", x.asked(), 0);
        dueWindows("part by 1", x, 0, 0, 2, 2, 0);
        due("part by 1, c 600", x.part(t, 1, 0, 2, 600), 2);
        due("its price, two changes", x.asked(), 1200);
        due("part by 1, c 1000", x.part(t, 1, 0, 2, 1000), 0);
        due("its price, two windows or two changes or one of each", x.asked(), 2000);
        dueWindows("part by 1, c 1000", x, 0, 0, 0, 0, 0);
        due("part by 1, c 1000, the greater first", x.part(t, 1, 2, 0, 1000), 1);
        due("its price, the greater first", x.asked(), 2000);
        dueWindows("part by 1, c 1000, the greater first", x, 0, 0, 2, 2, 2);
        due("part by 2", x.part(t, 2, 0, 2, 100), 2);
        due("its price, with two changes", x.asked(), 200);
        due("part by 3", x.part(t, 3, 2, 0, 0), 1);
        due("its price, of shorter windows", x.asked(), 334 + 500);
        dueWindows("part by 3", x, 0, 2);
        due("part by 60", x.part(t, 60, 0, 2, 10000000), 0);
        due("its price, of one window", x.asked(), 400);
        dueWindows("part by 60", x, 0);
        x.sort(1);
        x.part(t, 60, 0, 2, 10000000);
        due("its price by the squares", x.asked(), 160000);
        partRefused(x, t);
    }

    private static void partRefused(WhoseHand x, int t) {
        int[][] bad = {{-1, 1, 0, 2, 0}, {3, 1, 0, 2, 0}, {t, 0, 0, 2, 0}, {t, 61, 0, 2, 0}, {t, -1, 0, 2, 0},
            {t, 1, -1, 2, 0}, {t, 1, 6, 2, 0}, {t, 1, 0, -1, 0}, {t, 1, 0, 6, 0}, {t, 1, 0, 0, 0}, {t, 1, 5, 5, 0},
            {t, 1, 0, 2, -1}, {t, 1, 0, 2, 10000001}};
        for (int[] p : bad) due("part " + java.util.Arrays.toString(p), x.part(p[0], p[1], p[2], p[3], p[4]), BAD);
        found("a has no hand", x, 0, x.part(t, 1, 1, 2, 0), NOUGHT);
        found("b has no hand", x, 1, x.part(t, 1, 0, 1, 0), NOUGHT);
        found("its own hand without it", x, 2, x.part(0, 1, 0, 2, 0), NOUGHT);
        due("what is refused leaves the price", x.asked(), 160000);
        dueWindows("what is refused leaves the windows", x, 0);
        x.withdraw(t);
        found("NOTHING ahead of NOUGHT", x, 0, x.part(t, 1, 0, 1, 0), NOTHING);
    }

    private static void dueWindows(String what, WhoseHand x, int... owners) {
        for (int i = 0; i < owners.length; i++) due(what + ": window(" + i + ")", x.window(i), owners[i]);
        due(what + ": no more windows", x.window(owners.length), NONE);
    }

    private static void partingOfEqualPrice() {
        WhoseHand x = new WhoseHand();
        x.feature(1, 1);
        x.feature(1, 2);
        Checks.known(x, 3, "a");
        Checks.known(x, 1, "bb");
        int t = Checks.unknown(x, "ccc bb ccc a ccc");
        due("as like ones: a first", x.part(t, 1, 3, 1, 0), 2);
        due("the price", x.asked(), 3 * 1000);
        dueWindows("a wherever it is as cheap", x, 3, 1, 3, 3, 3);
        due("as like ones: a is the greater", x.part(t, 1, 1, 3, 0), 2);
        dueWindows("the other way", x, 1, 1, 1, 3, 1);
        due("a change for as much", x.part(t, 1, 3, 1, 2000), 0);
        due("the price of none", x.asked(), 5000);
        dueWindows("a, as both cost as much", x, 3, 3, 3, 3, 3);
        x.withdraw(t);
        int u = Checks.unknown(x, "bb ccc a");
        due("a late change", x.part(u, 1, 1, 3, 100), 1);
        dueWindows("a as long as can be", x, 1, 1, 3);
        due("an early change", x.part(u, 1, 3, 1, 100), 1);
        dueWindows("a as soon as can be", x, 1, 3, 3);
        partingByOne();
    }

    private static void partingByOne() {
        WhoseHand x = new WhoseHand();
        x.feature(1, 1);
        x.feature(1, 2);
        Checks.known(x, 0, "a" + repeat(" ccc", 6));
        Checks.known(x, 1, repeat("a ", 7) + repeat("bb ", 5) + "ccc ccc");
        int t = Checks.unknown(x, "a");
        due("far from 0", x.from(t, 0), 1000 - 142);
        due("far from 1", x.from(t, 1), 500 + 357);
        x.part(t, 1, 0, 1, 0);
        dueWindows("the least by one", x, 1);
        due("its price", x.asked(), 857);
    }

    private static void partingOfMostWindows() {
        WhoseHand x = new WhoseHand();
        for (int f = 0; f < 12; f++) x.feature(1, 1);
        x.sort(1);
        Checks.known(x, 0, "aa");
        Checks.known(x, 1, "bb");
        int t = Checks.unknown(x, repeat("a ", 100));
        due("part of 100 windows", x.part(t, 1, 0, 1, 10000000), 0);
        due("its price", x.asked(), 1200000000L);
        due("its last window", x.window(99), 0);
        due("none behind it", x.window(100), NONE);
        Checks.known(x, 5, "b");
        due("part of 100 like windows", x.part(t, 1, 0, 5, 10000000), 0);
        due("all by the other", x.window(99), 5);
        due("for nothing", x.asked(), 0);
        int none = Checks.unknown(x, "1");
        due("part of no windows", x.part(none, 1, 0, 1, 5), 0);
        due("its price is none", x.asked(), 0);
        due("no window", x.window(0), NONE);
        changesInEachWindow();
    }

    private static void changesInEachWindow() {
        WhoseHand x = new WhoseHand();
        for (int f = 0; f < 12; f++) x.feature(1, 1 + f / 6);
        x.sort(1);
        Checks.known(x, 0, "a");
        Checks.known(x, 1, "bb");
        StringBuilder signs = new StringBuilder();
        for (int i = 0; i < 40; i++) signs.append("a bb ");
        int t = Checks.unknown(x, signs.toString());
        due("a change in each window", x.part(t, 1, 0, 1, 1000000), 79);
        due("their price", x.asked(), 79000000L);
        due("a change at the end only", x.part(t, 1, 0, 1, 10000000), 1);
        due("the price of windows by another one", x.asked(), 478000000L);
    }

    private static void promise24Window() {
        WhoseHand x = new WhoseHand();
        x.feature(1, 1);
        Checks.known(x, 4, "a");
        Checks.known(x, 5, "bb");
        int t = Checks.unknown(x, "a bb a");
        due("window ahead of any part", x.window(0), NONE);
        x.part(t, 1, 4, 5, 0);
        dueWindows("three windows", x, 4, 5, 4);
        due("window(-1)", x.window(-1), NONE);
        due("window(LEAST)", x.window(LEAST), NONE);
        due("window(MOST)", x.window(MOST), NONE);
        due("a window that is none is no finding", x.finding(), 0);
        x.part(t, 2, 5, 4, 0);
        dueWindows("the latest ones only", x, 5, 4);
        x.part(t, 0, 5, 4, 0);
        dueWindows("a refused part leaves them", x, 5, 4);
    }

    private static void promise25Tree() {
        WhoseHand x = new WhoseHand();
        x.feature(1, 1);
        due("tree of none", x.tree(), 0);
        Checks.unknown(x, "a");
        due("tree of one", x.tree(), 0);
        due("no join", x.join(0, 0), NONE);
        Checks.known(x, 0, "bb");
        due("tree of two", x.tree(), 1);
        dueJoin(x, 0, 0, 1, 1000);
        Checks.write(x, 0, "a");
        x.text(3, 0, 0, 0);
        x.text(2, 0, 1, 1);
        due("the latest tree stays", x.join(0, 1), 1);
        due("tree of four kinds", x.tree(), 3);
        dueJoin(x, 0, 0, 2, 0);
        dueJoin(x, 1, 0, 3, 0);
        dueJoin(x, 2, 0, 1, 1000);
        x.withdraw(0);
        due("a tree stays when a text goes", x.join(2, 1), 1);
        due("tree without it", x.tree(), 2);
        dueJoin(x, 0, 2, 3, 0);
        dueJoin(x, 1, 1, 2, 1000);
        due("no more joins", x.join(2, 0), NONE);
    }

    private static void dueJoin(WhoseHand x, int i, int lesser, int other, int farness) {
        due("join(" + i + ", 0)", x.join(i, 0), lesser);
        due("join(" + i + ", 1)", x.join(i, 1), other);
        due("join(" + i + ", 2)", x.join(i, 2), farness);
    }

    private static void treeOfGroups() {
        WhoseHand x = new WhoseHand();
        x.feature(1, 1);
        Checks.unknown(x, "a a a a");
        Checks.unknown(x, "aa bb");
        Checks.unknown(x, "a bb bb bb bb bb bb bb bb bb");
        Checks.unknown(x, "a a a a b bb");
        due("tree of groups", x.tree(), 3);
        dueJoin(x, 0, 1, 2, 100);
        dueJoin(x, 1, 0, 3, 167);
        dueJoin(x, 2, 0, 1, 900 - 83);
        x.sort(1);
        due("tree by the squares", x.tree(), 3);
        dueJoin(x, 2, 0, 1, 817 * 817);
        WhoseHand y = new WhoseHand();
        for (int t = 0; t < 14; t++) Checks.unknown(y, "a");
        due("tree of fourteen", y.tree(), 13);
        for (int i = 0; i < 13; i++) dueJoin(y, i, 0, i + 1, 0);
        pairsAsLike();
        treeByTwoFeatures();
    }

    private static void treeByTwoFeatures() {
        WhoseHand x = new WhoseHand();
        x.feature(0, 'a');
        x.feature(1, 2);
        Checks.unknown(x, "a ab");
        Checks.unknown(x, "aab bb");
        Checks.unknown(x, "abb b b");
        x.tree();
        dueJoin(x, 0, 0, 1, 666 - 400);
        dueJoin(x, 1, 0, 2, 500 - 200 + 500);
    }

    /** Of pairs as like as 0 and 3, 1 and 2 and 1 and 4 the least first one goes ahead. */
    private static void pairsAsLike() {
        WhoseHand x = new WhoseHand();
        x.feature(1, 1);
        String[] texts = {"a", "bb", "bb", "a", "bb"};
        for (String signs : texts) Checks.unknown(x, signs);
        x.tree();
        dueJoin(x, 0, 0, 3, 0);
        dueJoin(x, 1, 1, 2, 0);
        dueJoin(x, 2, 1, 4, 0);
        dueJoin(x, 3, 0, 1, 1000);
    }

    private static void promise26Join() {
        WhoseHand x = new WhoseHand();
        due("BAD ahead of NONE", x.join(0, 3), BAD);
        Checks.unknown(x, "a");
        Checks.unknown(x, "bb");
        x.feature(1, 2);
        x.tree();
        dueJoin(x, 0, 0, 1, 1000);
        due("join(1, 0)", x.join(1, 0), NONE);
        due("join(-1, 0)", x.join(-1, 0), NONE);
        due("join(LEAST, 2)", x.join(LEAST, 2), NONE);
        due("join(MOST, 2)", x.join(MOST, 2), NONE);
        due("join(0, -1)", x.join(0, -1), BAD);
        due("join(0, 3)", x.join(0, 3), BAD);
        due("join(9, 3)", x.join(9, 3), BAD);
        due("no finding", x.finding(), 0);
    }

    private static void promise27Shuffle() {
        WhoseHand x = new WhoseHand();
        x.feature(1, 1);
        Checks.known(x, 0, "a");
        Checks.known(x, 0, "a a");
        found("b has no text", x, 0, x.shuffle(0, 0, 1), NOUGHT);
        found("a has no text", x, 1, x.shuffle(0, 1, 0), NOUGHT);
        Checks.known(x, 1, "bb");
        Checks.write(x, 0, "bb b");
        x.text(2, 0, 1, 1800);
        Checks.unknown(x, "a");
        due("shuffle of two and two", x.shuffle(0, 0, 1), 2);
        due("of six ways", x.asked(), 6);
        Checks.known(x, 1, "bb bb");
        due("shuffle of two and three", x.shuffle(0, 0, 1), 2);
        due("of ten ways", x.asked(), 10);
        due("shuffle of three and two", x.shuffle(0, 1, 0), 2);
        due("of ten ways again", x.asked(), 10);
        int[][] bad = {{-1, 0, 1}, {1, 0, 1}, {12, 0, 1}, {0, -1, 1}, {0, 6, 1}, {0, 0, -1}, {0, 0, 6}, {0, 1, 1}};
        for (int[] b : bad) due("shuffle " + java.util.Arrays.toString(b), x.shuffle(b[0], b[1], b[2]), BAD);
        due("BAD ahead of NOUGHT", x.shuffle(0, 5, 5), BAD);
        due("what is refused leaves the ways", x.asked(), 10);
        x.withdraw(0);
        x.withdraw(1);
        found("a's texts are withdrawn", x, 2, x.shuffle(0, 0, 1), NOUGHT);
        mostShuffles();
    }

    private static void mostShuffles() {
        WhoseHand x = new WhoseHand();
        x.feature(0, 'a');
        for (int t = 0; t < 14; t++) Checks.known(x, t % 2, t % 2 == 0 ? "a" : "b");
        due("shuffle of seven and seven", x.shuffle(0, 0, 1), 2);
        due("of all ways", x.asked(), 3432);
        WhoseHand y = new WhoseHand();
        y.feature(0, 'a');
        for (int t = 0; t < 14; t++) Checks.known(y, t == 6 ? 4 : 2, "b");
        due("shuffle of like ones", y.shuffle(0, 4, 2), 14);
        due("of fourteen ways", y.asked(), 14);
        due("shuffle of thirteen and one", y.shuffle(0, 2, 4), 14);
        due("of fourteen ways, thirteen taken", y.asked(), 14);
    }

    private static void promise28Asked() {
        WhoseHand x = new WhoseHand();
        x.feature(1, 1);
        Checks.known(x, 0, "a");
        Checks.known(x, 1, "bb");
        int t = Checks.unknown(x, "a bb bb");
        due("asked ahead of any", x.asked(), 0);
        x.part(t, 3, 0, 1, 0);
        due("asked by part", x.asked(), 333);
        x.part(t, 3, 0, 2, 0);
        due("a refused part leaves it", x.asked(), 333);
        x.shuffle(0, 0, 1);
        due("asked by shuffle", x.asked(), 2);
        x.shuffle(0, 0, 2);
        x.shuffle(9, 0, 1);
        due("a refused shuffle leaves it", x.asked(), 2);
        x.tree();
        x.nearest(t);
        due("no other call changes it", x.asked(), 2);
        x.part(t, 3, 0, 1, 0);
        due("asked by part again", x.asked(), 333);
    }

    private static void promise29Count() {
        WhoseHand x = new WhoseHand();
        Checks.unknown(x, "a");
        Checks.unknown(x, "b");
        Checks.unknown(x, "c");
        x.withdraw(1);
        x.feature(1, 1);
        x.feature(0, 32);
        x.sort(1);
        due("TEXTS ever", x.count(0), 3);
        due("TEXTS that are not withdrawn", x.count(1), 2);
        due("FEATURES", x.count(2), 1);
        due("the sort of FARNESS", x.count(3), 1);
        due("count(-1)", x.count(-1), BAD);
        due("count(4)", x.count(4), BAD);
    }

    private static void promise30And31Findings() {
        WhoseHand x = new WhoseHand();
        due("finding() before any", x.finding(), 0);
        x.tear(0);
        due("NOTHING", x.finding(), NOTHING);
        x.sheet(0, -1);
        due("SIZE", x.finding(), SIZE);
        x.sheet(0, 1);
        x.lay(0, 1, 0);
        due("BEYOND", x.finding(), BEYOND);
        int t = x.text(0, 0, 0, 0);
        x.mark(t, 1);
        due("UNLIKE", x.finding(), UNLIKE);
        x.mean(t);
        due("NOUGHT", x.finding(), NOUGHT);
        x.mean(9);
        x.nearest(t);
        due("what is BAD or NONE leaves it", x.finding(), NOUGHT);
        for (int f = 1; f <= 5; f++) due("findings(" + f + ")", x.findings(f), 1);
        x.mean(t);
        due("findings(4) again", x.findings(4), 2);
        due("findings(0)", x.findings(0), BAD);
        due("findings(6)", x.findings(6), BAD);
        due("findings(-1)", x.findings(-1), BAD);
        due("findings(MOST)", x.findings(MOST), BAD);
    }

    private static void promise32Digest() {
        WhoseHand x = new WhoseHand();
        due("digest of a new object", x.digest(), hashed(0, 0, 0, 0, -1, -1, -1, -1));
        x.sheet(1, 0);
        Checks.write(x, 2, "Ab[");
        x.lay(2, 1, 200);
        due("digest of sheets", x.digest(), hashed(0, 0, 0, 0, -1, 0, 3, 'A', -56, '[', -1));
        x.feature(0, 'a');
        x.feature(1, 1);
        x.text(2, 2, 4, 5);
        x.text(0, 2, 4, 5);
        x.sort(1);
        long both = hashed(2, 2, 2, 1, 2, 4, 1, 1, 1, 1, 1, 0, NONE, 1, 1, 1, 1, 1, -1, 0, 3, 'A', -56, '[', -1);
        due("digest of texts", x.digest(), both);
        x.mean(9);
        x.lay(2, 9, 9);
        due("what is refused is not in it", x.digest(), both);
        x.withdraw(0);
        due("digest of a withdrawn text", x.digest(),
            hashed(2, 1, 2, 1, -1, 0, NONE, 1, 1, 1, 1, 1, -1, 0, 3, 'A', -56, '[', -1));
    }

    private static long hashed(long... all) {
        long h = 17;
        for (long v : all) h = 31 * h + v;
        return h;
    }
}
