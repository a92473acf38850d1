/** Counts the answers that are not as due, and writes sheets. */
final class Checks {
    private final String name;
    private int asked;
    private int wrong;

    Checks(String name) {
        this.name = name;
    }

    void due(String call, long got, long want) {
        asked++;
        if (got == want) return;
        wrong++;
        if (wrong <= 50) System.out.println(name + ": " + call + " answered " + got + ", due is " + want);
    }

    void holds(String what, boolean held) {
        due(what, held ? 1 : 0, 1);
    }

    void end() {
        System.out.println(name + ": " + (asked - wrong) + " of " + asked + " answers are as due");
        if (wrong != 0) System.exit(1);
    }

    static void write(WhoseHand x, int s, String signs) {
        x.sheet(s, signs.length());
        for (int i = 0; i < signs.length(); i++) x.lay(s, i, signs.charAt(i));
    }

    /** The number of a text of the signs, written on sheet 3. */
    static int known(WhoseHand x, int writer, String signs) {
        write(x, 3, signs);
        return x.text(1, 3, writer, 0);
    }

    static int unknown(WhoseHand x, String signs) {
        write(x, 3, signs);
        return x.text(0, 3, 0, 0);
    }
}
