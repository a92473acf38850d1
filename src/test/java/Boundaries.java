import java.util.ArrayList;
import java.util.HashSet;
import java.util.List;
import java.util.Set;

/**
 * Tests of single sentences of the document. Each is named after its promise and its sentence, and each call
 * is made on an object of its own; a refused call is also looked at for having changed nothing else.
 */
final class Boundaries {
    static final int MOST = Integer.MAX_VALUE, LEAST = Integer.MIN_VALUE;
    private static final int NOTHING = 1, BEYOND = 2, UNLIKE = 3, NOUGHT = 4, SIZE = 5;

    interface Maker {
        void on(WhoseHand x);
    }

    interface Call {
        long on(WhoseHand x);
    }

    interface Steps {
        void on(WhoseHand x, Due due);
    }

    /** What the steps of one test answer, beside what is due. */
    final class Due {
        private final String test;
        private int step;

        Due(String test) {
            this.test = test;
        }

        void is(long got, long want) {
            step++;
            if (got != want) tellWrong(test + ", step " + step + ": answered " + got + ", due is " + want);
        }
    }

    private final String file;
    private final Set<String> tests = new HashSet<>();
    private String promise = "";
    private Maker world = x -> { };
    private int wrong;

    Boundaries(String file) {
        this.file = file;
    }

    /** The tests from here on are of this promise (or of these terms), on objects that the world makes. */
    void promise(String name, Maker made) {
        promise = name;
        world = made;
    }

    void holds(String sentence, Steps steps) {
        steps.on(made(), newTest(sentence));
    }

    void answers(String sentence, long want, Call call) {
        newTest(sentence).is(call.on(made()), want);
    }

    void bad(String sentence, Call call) {
        refuses(sentence, WhoseHand.BAD, 0, call);
    }

    void full(String sentence, Call call) {
        refuses(sentence, WhoseHand.FULL, 0, call);
    }

    void state(String sentence, Call call) {
        refuses(sentence, WhoseHand.STATE, 0, call);
    }

    void none(String sentence, Call call) {
        refuses(sentence, WhoseHand.NONE, 0, call);
    }

    void nothing(String sentence, Call call) {
        refuses(sentence, WhoseHand.FINDING, NOTHING, call);
    }

    void beyond(String sentence, Call call) {
        refuses(sentence, WhoseHand.FINDING, BEYOND, call);
    }

    void unlike(String sentence, Call call) {
        refuses(sentence, WhoseHand.FINDING, UNLIKE, call);
    }

    void nought(String sentence, Call call) {
        refuses(sentence, WhoseHand.FINDING, NOUGHT, call);
    }

    void size(String sentence, Call call) {
        refuses(sentence, WhoseHand.FINDING, SIZE, call);
    }

    void end() {
        System.out.println(file + ": " + tests.size() + " tests of sentences, " + wrong + " wrong answers");
        if (wrong != 0 || tests.isEmpty()) System.exit(1);
    }

    private void refuses(String sentence, int answer, int finding, Call call) {
        Due due = newTest(sentence);
        WhoseHand x = made();
        List<Long> told = allTold(x);
        due.is(call.on(x), answer);
        if (finding != 0) {
            told.set(0, (long) finding);
            told.set(finding, told.get(finding) + 1);
        }
        List<Long> toldNow = allTold(x);
        if (!toldNow.equals(told)) tellWrong(due.test + ": the object then tells " + toldNow + ", due is " + told);
    }

    /** All that can be asked for without being refused: first the latest finding, then how often each was. */
    private static List<Long> allTold(WhoseHand x) {
        List<Long> told = new ArrayList<>();
        told.add((long) x.finding());
        for (int f = 1; f <= 5; f++) told.add((long) x.findings(f));
        for (int what = 0; what < 4; what++) told.add((long) x.count(what));
        told.add(x.digest());
        told.add(x.asked());
        for (int i = 0; i < 4; i++) told.add((long) x.window(i));
        for (int i = 0; i < 5; i++) {
            for (int what = 0; what < 3; what++) told.add((long) x.join(i, what));
        }
        for (int what = 0; what < 3; what++) told.add((long) x.trial(what));
        return told;
    }

    private WhoseHand made() {
        WhoseHand x = new WhoseHand();
        world.on(x);
        return x;
    }

    private Due newTest(String sentence) {
        String test = promise + ": " + sentence;
        if (!tests.add(test)) tellWrong(test + ": there are two tests of this name");
        return new Due(test);
    }

    private void tellWrong(String what) {
        wrong++;
        if (wrong <= 50) System.out.println(file + ": " + what);
    }
}
