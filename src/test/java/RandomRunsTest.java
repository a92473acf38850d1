import java.lang.reflect.Method;
import java.util.ArrayList;
import java.util.List;
import java.util.Map;
import java.util.Random;
import java.util.TreeMap;

/** Runs of 512 calls by fixed seeds, each answer beside that of the oracle. */
public final class RandomRunsTest {
    private static final int RUNS = 120, CALLS = 512;
    private static final Checks checks = new Checks("RandomRunsTest");
    private static final Map<String, Method> program = methodsOf(WhoseHand.class);
    private static final Map<String, Method> oracle = methodsOf(Oracle.class);
    private static final String SIGNS = "aaabbbcde  ,.;AB";
    private static final String RARE_SIGNS = "[]!zZ~`@{1-\n";
    private static final String[] ASKED = {"told", "mark", "counts", "counts", "rate", "rate", "hand", "mean", "sort",
        "far", "from", "nearest", "place", "trial", "taken", "impostors", "part", "part", "window", "window", "tree", "join",
        "shuffle", "asked", "count", "finding", "findings", "digest", "copy", "lay", "text", "feature"};
    private static final String[] RARELY_ASKED = {"sheet", "tear", "withdraw", "copy"};

    private final WhoseHand x = new WhoseHand();
    private final Oracle o = new Oracle();
    private final Random random;
    private final int seed;
    private int called;

    private RandomRunsTest(int seed) {
        this.seed = seed;
        this.random = new Random(seed);
    }

    public static void main(String[] args) throws Exception {
        for (int seed = 1; seed <= RUNS; seed++) new RandomRunsTest(seed).run();
        checks.end();
    }

    private static Map<String, Method> methodsOf(Class<?> type) {
        Map<String, Method> methods = new TreeMap<>();
        for (Method method : type.getDeclaredMethods()) {
            if (java.lang.reflect.Modifier.isPublic(method.getModifiers())) methods.put(method.getName(), method);
        }
        return methods;
    }

    private void run() throws Exception {
        int most = seed % 4 == 0 ? 120 : 24;
        for (int i = 0; i < 6; i++) tellFeature();
        for (int s = 0; s < 3; s++) writeSheet(s, most);
        while (called < CALLS) {
            if (called < 300 && random.nextInt(3) == 0) changeAndTell(most);
            else if (random.nextInt(12) == 0) call(RARELY_ASKED[random.nextInt(RARELY_ASKED.length)]);
            else call(ASKED[random.nextInt(ASKED.length)]);
        }
    }

    private void tellFeature() throws Exception {
        int sort = random.nextInt(4);
        int v = sort == 1 ? 1 + random.nextInt(3) : sort == 3 ? random.nextInt(4) : aSign();
        ask("feature", sort, v);
    }

    private void writeSheet(int s, int most) throws Exception {
        int size = random.nextInt(most);
        ask("sheet", s, size);
        for (int i = 0; i < size; i++) ask("lay", s, i, aSign());
    }

    private void changeAndTell(int most) throws Exception {
        int s = random.nextInt(3);
        if (random.nextInt(4) == 0) writeSheet(s, Math.min(most, 40));
        else for (int i = 0; i < 4; i++) ask("lay", s, random.nextInt(most), aSign());
        ask("text", random.nextInt(4), s, random.nextInt(3), random.nextInt(3000));
        if (random.nextInt(3) == 0) tellFeature();
    }

    private int aSign() {
        int kind = random.nextInt(30);
        if (kind == 0) return random.nextInt(600) - 200;
        if (kind < 4) return RARE_SIGNS.charAt(random.nextInt(RARE_SIGNS.length()));
        return SIGNS.charAt(random.nextInt(SIGNS.length()));
    }

    private void call(String name) throws Exception {
        Class<?>[] types = program.get(name).getParameterTypes();
        Object[] args = new Object[types.length];
        for (int i = 0; i < args.length; i++) {
            args[i] = types[i] == long.class ? (Object) random.nextLong() : (Object) argument(name, i);
        }
        ask(name, args);
    }

    private int argument(String name, int i) {
        int[] wild = {-1, 4, 6, 14, 201, Integer.MIN_VALUE, Integer.MAX_VALUE};
        if (random.nextInt(40) == 0) return wild[random.nextInt(wild.length)];
        int[] most = mostOf(name);
        if (name.equals("part") && i == 4) return random.nextInt(3) == 0 ? 500 * random.nextInt(5) : random.nextInt(3000);
        if (name.equals("part") && i == 1) return 1 + random.nextInt(random.nextInt(4) == 0 ? 60 : 4);
        return i < most.length ? random.nextInt(most[i]) : 0;
    }

    /** By how many each of a call's arguments is bounded, so that most calls are not refused. */
    private int[] mostOf(String name) {
        int texts = Math.max(1, o.count(0));
        int features = Math.max(1, o.count(2));
        switch (name) {
            case "sheet": return new int[] {4, 60};
            case "lay": return new int[] {4, 24, 300};
            case "tear": return new int[] {4};
            case "copy": return new int[] {4, 12, 4, 12, 12};
            case "text": return new int[] {4, 4, 4, 10001};
            case "told": return new int[] {texts, 5};
            case "mark": return new int[] {texts, 4};
            case "withdraw": return new int[] {texts};
            case "feature": return new int[] {4, 128};
            case "counts":
            case "rate": return new int[] {features, texts};
            case "hand": return new int[] {features, 4};
            case "mean":
            case "nearest": return new int[] {texts};
            case "sort": return new int[] {2};
            case "far": return new int[] {texts, texts};
            case "from":
            case "place": return new int[] {texts, 4};
            case "trial": return new int[] {3};
            case "taken": return new int[] {4, 4};
            case "impostors": return new int[] {texts, 4, 202};
            case "part": return new int[] {texts, 61, 3, 3, 3000};
            case "window": return new int[] {12};
            case "join": return new int[] {14, 3};
            case "shuffle": return new int[] {features, 3, 3};
            case "count": return new int[] {4};
            case "findings": return new int[] {6};
            default: return new int[0];
        }
    }

    private void ask(String name, Object... args) throws Exception {
        if (called >= CALLS) return;
        called++;
        List<Object> row = new ArrayList<>(List.of(args));
        long got = ((Number) program.get(name).invoke(x, args)).longValue();
        long want = ((Number) oracle.get(name).invoke(o, args)).longValue();
        checks.due("seed " + seed + ", call " + called + ": " + name + row, got, want);
    }
}
