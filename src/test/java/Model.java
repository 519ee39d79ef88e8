import java.math.BigInteger;
import java.util.ArrayList;
import java.util.HashMap;
import java.util.List;
import java.util.Map;
import java.util.NoSuchElementException;
import java.util.TreeMap;
import java.util.function.Function;
import java.util.function.ToIntFunction;
import java.util.stream.IntStream;

/**
 * The document's words once more, written in another way than the program: sums are maps without
 * zeros, and an expression is made first and taken back if it turns out that there is no room.
 */
final class Model {
    private static final BigInteger P = BigInteger.valueOf(97);

    private record Triple(Map<Integer, Integer> a, Map<Integer, Integer> b, Map<Integer, Integer> c) {
        Map<Integer, Integer> at(int sum) {
            return List.of(a, b, c).get(sum);
        }

        boolean holds(List<Integer> numbers) {
            return mod((long) worth(a, numbers) * worth(b, numbers) - worth(c, numbers)) == 0;
        }
    }

    private final List<Map<Integer, Integer>> sums = new ArrayList<>();
    private final List<Integer> kinds = new ArrayList<>();
    private List<Function<List<Integer>, Integer>> makers = new ArrayList<>();
    private List<Triple> triples = new ArrayList<>();
    private final Map<Integer, Integer> given = new HashMap<>();
    private List<Integer> witness = null;
    private int witnessed = 0;

    Model() {
        makers.add(numbers -> 1);
    }

    int expression(int kind, int a, int b, int c) {
        if (kind < 0 || kind > 9
                || List.of(2, 3, 4, 5, 6, 7, 8, 9).contains(kind) && !made(a)
                || List.of(2, 3, 4, 5, 6, 7).contains(kind) && !made(b)
                || kind == 7 && !made(c)
                || kind == 9 && !List.of(1, 2, 3, 4, 5).contains(b)) {
            throw new IllegalArgumentException();
        }
        List<Function<List<Integer>, Integer>> oldMakers = new ArrayList<>(makers);
        List<Triple> oldTriples = new ArrayList<>(triples);
        sums.add(make(kind, a, b, c));
        kinds.add(kind);
        if (sums.size() > 60 || makers.size() > 60 || triples.size() > 80) {
            makers = oldMakers;
            triples = oldTriples;
            sums.remove(sums.size() - 1);
            kinds.remove(kinds.size() - 1);
            throw new IllegalStateException();
        }
        return sums.size() - 1;
    }

    int claim(int kind, int a, int b) {
        if (kind != 0 && kind != 1 || !made(a) || kind == 0 && !made(b)) {
            throw new IllegalArgumentException();
        }
        if (triples.size() == 80) {
            throw new IllegalStateException();
        }
        triples.add(kind == 0
                ? new Triple(mix(sums.get(a), sums.get(b), -1), number(1), number(0))
                : new Triple(sums.get(a), mix(number(1), sums.get(a), -1), number(0)));
        return triples.size() - 1;
    }

    int give(int expression, int value) {
        need(made(expression));
        if (kinds.get(expression) != 1) {
            throw new UnsupportedOperationException();
        }
        Integer before = given.put(expression, mod(value));
        return before == null ? 0 : before;
    }

    int solve() {
        List<Integer> numbers = new ArrayList<>();
        for (Function<List<Integer>, Integer> maker : makers) {
            numbers.add(maker.apply(numbers));
        }
        witness = numbers;
        witnessed = triples.size();
        return broken();
    }

    int value(int expression) {
        need(made(expression));
        needWitness();
        if (sums.get(expression).keySet().stream().anyMatch(v -> v >= witness.size())) {
            throw new IllegalStateException();
        }
        return worth(sums.get(expression), witness);
    }

    int tamper(int variable, int value) {
        needWitness();
        if (variable <= 0 || variable >= witness.size()) {
            throw new IllegalArgumentException();
        }
        return witness.set(variable, mod(value));
    }

    int broken() {
        needWitness();
        return (int) triples.subList(0, witnessed).stream().filter(t -> !t.holds(witness)).count();
    }

    int first() {
        needWitness();
        return IntStream.range(0, witnessed).filter(i -> !triples.get(i).holds(witness)).findFirst().orElseThrow();
    }

    int coefficient(int constraint, int sum, int variable) {
        need(constraint >= 0 && constraint < triples.size());
        if (sum < 0 || sum > 2 || variable < 0 || variable > 59) {
            throw new IllegalArgumentException();
        }
        return triples.get(constraint).at(sum).getOrDefault(variable, 0);
    }

    int terms(int expression) {
        need(made(expression));
        return sums.get(expression).size();
    }

    int uses(int variable) {
        if (variable < 0 || variable > 59) {
            throw new IllegalArgumentException();
        }
        ToIntFunction<Triple> uses = t ->
                t.a().containsKey(variable) || t.b().containsKey(variable) || t.c().containsKey(variable) ? 1 : 0;
        return triples.stream().mapToInt(uses).sum();
    }

    int count(int what) {
        return switch (what) {
            case 0 -> sums.size();
            case 1 -> makers.size();
            case 2 -> triples.size();
            case 3 -> (int) kinds.stream().filter(k -> k == 1).count();
            case 4 -> witness == null ? 0 : 1;
            case 5 -> witness == null ? 0 : witness.size();
            default -> throw new IllegalArgumentException();
        };
    }

    private Map<Integer, Integer> make(int kind, int a, int b, int c) {
        int self = sums.size();
        return switch (kind) {
            case 0 -> number(a);
            case 1 -> variable(numbers -> given.getOrDefault(self, 0));
            case 2 -> mix(sums.get(a), sums.get(b), 1);
            case 3 -> mix(sums.get(a), sums.get(b), -1);
            case 4 -> times(sums.get(a), sums.get(b));
            case 5 -> share(sums.get(a), sums.get(b));
            case 6 -> same(mix(sums.get(a), sums.get(b), -1));
            case 7 -> mix(times(sums.get(c), mix(sums.get(a), sums.get(b), -1)), sums.get(b), 1);
            case 8 -> mix(number(1), sums.get(a), -1);
            default -> {
                Map<Integer, Integer> power = sums.get(a);
                for (int i = b - 1; i > 0; i--) {
                    power = times(power, sums.get(a));
                }
                yield power;
            }
        };
    }

    private Map<Integer, Integer> times(Map<Integer, Integer> a, Map<Integer, Integer> b) {
        if (constant(a)) {
            return mix(number(0), b, a.getOrDefault(0, 0));
        }
        if (constant(b)) {
            return mix(number(0), a, b.getOrDefault(0, 0));
        }
        Map<Integer, Integer> q = variable(numbers -> mod((long) worth(a, numbers) * worth(b, numbers)));
        triples.add(new Triple(a, b, q));
        return q;
    }

    private Map<Integer, Integer> share(Map<Integer, Integer> a, Map<Integer, Integer> b) {
        Map<Integer, Integer> i = variable(numbers -> inverse(worth(b, numbers)));
        Map<Integer, Integer> q = variable(numbers -> mod((long) worth(a, numbers) * worth(i, numbers)));
        triples.add(new Triple(b, i, number(1)));
        triples.add(new Triple(a, i, q));
        return q;
    }

    private Map<Integer, Integer> same(Map<Integer, Integer> d) {
        Map<Integer, Integer> i = variable(numbers -> worth(d, numbers) == 0 ? 0 : inverse(worth(d, numbers)));
        Map<Integer, Integer> r = variable(numbers -> worth(d, numbers) == 0 ? 1 : 0);
        triples.add(new Triple(d, i, mix(number(1), r, -1)));
        triples.add(new Triple(d, r, number(0)));
        return r;
    }

    private Map<Integer, Integer> variable(Function<List<Integer>, Integer> maker) {
        makers.add(maker);
        return new TreeMap<>(Map.of(makers.size() - 1, 1));
    }

    private static Map<Integer, Integer> number(int n) {
        return mix(new TreeMap<>(), Map.of(0, 1), n);
    }

    private static Map<Integer, Integer> mix(Map<Integer, Integer> a, Map<Integer, Integer> b, int factor) {
        Map<Integer, Integer> sum = new TreeMap<>(a);
        b.forEach((v, k) -> sum.merge(v, mod((long) factor * k), (x, y) -> mod((long) x + y)));
        sum.values().removeIf(k -> k == 0);
        return sum;
    }

    private static boolean constant(Map<Integer, Integer> sum) {
        return sum.keySet().stream().allMatch(v -> v == 0);
    }

    private static int worth(Map<Integer, Integer> sum, List<Integer> numbers) {
        return mod(sum.entrySet().stream().mapToLong(e -> (long) e.getValue() * numbers.get(e.getKey())).sum());
    }

    /** BigInteger itself throws the ArithmeticException that is due for 0. */
    private static int inverse(int n) {
        return BigInteger.valueOf(n).modInverse(P).intValue();
    }

    private static int mod(long n) {
        return BigInteger.valueOf(n).mod(P).intValue();
    }

    private boolean made(int expression) {
        return expression >= 0 && expression < sums.size();
    }

    private static void need(boolean there) {
        if (!there) {
            throw new NoSuchElementException();
        }
    }

    private void needWitness() {
        if (witness == null) {
            throw new IllegalStateException();
        }
    }
}
