import java.util.Arrays;
import java.util.Random;

/** Long runs of calls, the same each time, of which every answer must be the model's. */
public final class RunsAgainstModelTest {
    private static final int RUNS = 1500;
    private static final String[] NAMES = {
        "expression", "claim", "give", "solve", "value", "tamper",
        "broken", "first", "coefficient", "terms", "uses", "count"
    };

    private final Random random;
    private final Subject x = new Subject();
    private final Model model = new Model();
    private final int[] weights = new int[NAMES.length];
    private final int[] kindWeights = new int[10];

    private RunsAgainstModelTest(long seed) {
        random = new Random(seed);
        fillWeights(weights);
        fillWeights(kindWeights);
        // Constants keep sums from growing, inputs make them worth solving: both in every run.
        kindWeights[0]++;
        kindWeights[1]++;
    }

    public static void main(String[] args) {
        for (int seed = 0; seed < RUNS; seed++) {
            new RunsAgainstModelTest(seed).run(seed);
        }
        Checks.end();
    }

    private void fillWeights(int[] row) {
        for (int i = 0; i < row.length; i++) {
            row[i] = 1 + random.nextInt(8);
        }
    }

    private void run(int seed) {
        for (int i = 0; x.callsLeft() > 0; i++) {
            int method = pick(weights);
            int[] p = arguments(method);
            String what = "run " + seed + ", call " + i + ": " + NAMES[method] + Arrays.toString(p);
            Checks.due(what, x.answer(NAMES[method], p), modelAnswer(method, p));
        }
    }

    private int pick(int[] row) {
        int left = random.nextInt(Arrays.stream(row).sum());
        int i = 0;
        while (left >= row[i]) {
            left -= row[i];
            i++;
        }
        return i;
    }

    private Object modelAnswer(int method, int[] p) {
        try {
            return ofModel(method, p);
        } catch (RuntimeException e) {
            return e.getClass();
        }
    }

    private int[] arguments(int method) {
        return switch (NAMES[method]) {
            case "expression" -> expressionArguments();
            case "claim" -> new int[] {upTo(2), made(), made()};
            case "give" -> new int[] {made(), number()};
            case "value", "terms" -> new int[] {made()};
            case "tamper" -> new int[] {upTo(model.count(5)), number()};
            case "coefficient" -> new int[] {upTo(model.count(2)), upTo(3), upTo(chance(4) ? 60 : model.count(1))};
            case "uses" -> new int[] {upTo(chance(4) ? 60 : model.count(1))};
            case "count" -> new int[] {upTo(6)};
            default -> new int[0];
        };
    }

    private int[] expressionArguments() {
        int kind = chance(40) ? any() : pick(kindWeights);
        int a = kind == 0 ? number() : made();
        int b = kind == 9 ? 1 + upTo(5) : made();
        return new int[] {kind, a, b, made()};
    }

    private int made() {
        return upTo(model.count(0));
    }

    /** Mostly 0 .. end - 1, now and then beside it or far off. */
    private int upTo(int end) {
        if (chance(30)) {
            return any();
        }
        return end == 0 || chance(30) ? (random.nextBoolean() ? end : -1) : random.nextInt(end);
    }

    private int number() {
        return chance(5) ? any() : random.nextInt(chance(2) ? 3 : 97);
    }

    private int any() {
        int[] edges = {Integer.MIN_VALUE, -98, -97, -96, -1, 10, 59, 60, 80, 97, 98, Integer.MAX_VALUE};
        return random.nextBoolean() ? random.nextInt() : edges[random.nextInt(edges.length)];
    }

    private boolean chance(int oneIn) {
        return random.nextInt(oneIn) == 0;
    }

    private int ofModel(int method, int[] p) {
        return switch (NAMES[method]) {
            case "expression" -> model.expression(p[0], p[1], p[2], p[3]);
            case "claim" -> model.claim(p[0], p[1], p[2]);
            case "give" -> model.give(p[0], p[1]);
            case "solve" -> model.solve();
            case "value" -> model.value(p[0]);
            case "tamper" -> model.tamper(p[0], p[1]);
            case "broken" -> model.broken();
            case "first" -> model.first();
            case "coefficient" -> model.coefficient(p[0], p[1], p[2]);
            case "terms" -> model.terms(p[0]);
            case "uses" -> model.uses(p[0]);
            default -> model.count(p[0]);
        };
    }
}
