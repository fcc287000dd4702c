import java.lang.reflect.Method;
import java.util.Random;

/** Long runs of calls, drawn from fixed seeds, whose answers must be those of PlainModel. */
public final class ModelTest {
    private static final Checks CHECK = new Checks("ModelTest");
    private static final int RUNS = 400;
    private static final int CALLS = 512;
    /** A method, how often it is drawn, then the least and the most of each argument that is drawn mostly. */
    private static final Object[][] PLAN = {
        {"person", 4, 0, 400, 0, 40, 5, 40}, {"of", 6, 0, 4, 0, 6}, {"coat", 6, 0, 4, 0, 7, 0, 3},
        {"tax", 8, 0, 4, 0, 4, 0, 9}, {"heat", 3, 0, 11, 0, 40}, {"rule", 5, 0, 1, 0, 9}, {"count", 3, 0, 5},
        {"take", 8, 0, 4, 0, 4, 1, 99, 0, 20, 1, 9}, {"pay", 10, 0, 4, 0, 6}, {"nights", 3, 1, 20},
        {"cut", 4, 0, 4, 0, 5}, {"ring", 6, 0, 4, 0, 4, -1, 4}, {"rings", 6, -1, 2}, {"owed", 3, 0, 4},
        {"free", 6, 0, 4, 0, 7}, {"saves", 4, 0, 4, 0, 5}, {"bears", 4, 0, 4}, {"ware", 3, 1, 5, 1, 3},
        {"under", 5, 0, 7, 1, 12, 1, 20, 0, 1}, {"image", 1}, {"restore", 1}, {"judged", 9, 0, 3, 0, 2, 0, 6, 1, 4},
        {"sheet", 5, 0, 3, 0, 2, 0, 24}, {"drop", 1, 0, 3}, {"item", 20, 0, 3, 0, 2, 0, 11, 0, 5},
        {"copy", 5, 0, 3, 0, 12, 0, 3, 0, 12, 0, 12}, {"text", 9}};
    private static final int[] HARD = {Integer.MIN_VALUE, -13, -2, -1, 0, 1, 2, 3, 4, 5, 6, 7, 8, 9, 10, 12, 20, 24, 25,
        40, 41, 60, 61, 80, 99, 100, 127, 128, 255, 256, 359, 360, 999, 9999, 10000, 65536, 99999, 100000,
        Integer.MAX_VALUE - 1, Integer.MAX_VALUE};

    private final Random random;
    private final DebtCoats x = new DebtCoats();
    private final PlainModel model = new PlainModel();
    private final int hardness;
    /** Some runs are of one with a purse nearly full, and of amounts that grow to the most that can be. */
    private final boolean isRich;
    private boolean isAlike = true;

    private ModelTest(int seed) {
        random = new Random(seed);
        hardness = seed % 4 == 0 ? 25 : 3;
        isRich = seed % 8 == 1;
    }

    public static void main(String[] args) throws ReflectiveOperationException {
        for (int seed = 0; seed < RUNS; seed++) {
            new ModelTest(seed).run(seed);
        }
        CHECK.end();
    }

    private void run(int seed) throws ReflectiveOperationException {
        int weights = 0;
        for (Object[] row : PLAN) {
            weights += (Integer) row[1];
        }
        for (int call = isRich ? enrich(seed) : 0; call < CALLS && isAlike; call++) {
            int drawn = random.nextInt(weights);
            int k = 0;
            while (drawn >= (Integer) PLAN[k][1]) {
                drawn -= (Integer) PLAN[k][1];
                k++;
            }
            if (PLAN[k][0].equals("text")) {
                call += wear(seed);
            } else {
                ask(seed, (String) PLAN[k][0], arguments(PLAN[k]));
            }
        }
    }

    /** One comes whose purse is filled by coats taken on, in place of which he then wears others: how many calls. */
    private int enrich(int seed) throws ReflectiveOperationException {
        ask(seed, "person", 9999, random.nextInt(100), 60);
        ask(seed, "tax", 0, random.nextInt(5), random.nextInt(10));
        int calls = 2;
        for (int round = 0; round < 17; round++) {
            ask(seed, "type", Checks.bytesOf("a1"), 2);
            ask(seed, "coats", 0);
            for (int c = 1; c < 8; c++) {
                ask(seed, "take", 0, random.nextInt(5), 9999 - random.nextInt(round < 12 ? 99 : 9999), 20, 1);
            }
            calls += 9;
        }
        return calls;
    }

    private Object[] arguments(Object[] row) {
        Object[] drawn = new Object[row.length / 2 - 1];
        for (int k = 0; k < drawn.length; k++) {
            int least = (Integer) row[2 + 2 * k];
            int most = (Integer) row[3 + 2 * k];
            boolean isHard = random.nextInt(100) < hardness;
            drawn[k] = isHard ? HARD[random.nextInt(HARD.length)] : least + random.nextInt(most - least + 1);
        }
        return drawn;
    }

    private void ask(int seed, String name, Object... arguments) throws ReflectiveOperationException {
        for (Method method : DebtCoats.class.getDeclaredMethods()) {
            if (method.getName().equals(name)) {
                int got = (Integer) method.invoke(x, arguments);
                int want = (Integer) PlainModel.class.getMethod(name, method.getParameterTypes()).invoke(model, arguments);
                CHECK.due("seed " + seed + " " + name + java.util.Arrays.toString(arguments), got, want);
                isAlike &= got == want;
            }
        }
    }

    private int wear(int seed) throws ReflectiveOperationException {
        StringBuilder text = new StringBuilder();
        int coats = 1 + random.nextInt(random.nextInt(8) == 0 ? 8 : 5);
        for (int k = 0; k < coats; k++) {
            text.append(k == 0 ? "" : ";").append((char) ('a' + random.nextInt(5))).append(1 + random.nextInt(isRich ? 9999 : 150));
            text.append(random.nextBoolean() ? "r" + random.nextInt(random.nextInt(4) == 0 ? 22 : 6) : "");
            text.append(random.nextBoolean() ? "t" + (1 + random.nextInt(9)) : "");
        }
        for (int k = random.nextInt(6); k > 2; k--) {
            spoil(text);
        }
        int calls = 0;
        for (int from = 0; from < text.length(); from += 8) {
            String part = text.substring(from, Math.min(from + 8, text.length()));
            ask(seed, "type", Checks.bytesOf(part), part.length());
            calls++;
        }
        ask(seed, "coats", random.nextInt(5));
        return calls;
    }

    private void spoil(StringBuilder text) {
        String signs = "   00123459abcdefrt;;x~\177\u001f";
        char sign = signs.charAt(random.nextInt(signs.length()));
        int at = random.nextInt(text.length() + 1);
        if (random.nextInt(3) > 0) {
            text.insert(at, sign);
        } else if (at < text.length() && text.length() > 1) {
            text.deleteCharAt(at);
        }
    }
}
