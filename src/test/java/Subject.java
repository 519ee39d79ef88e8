import java.util.Arrays;

/** An object under test that is never asked more than 512 calls: what it answers behind them is free. */
final class Subject {
    static final int CALLS = 512;

    private final ConstraintCompiler x = new ConstraintCompiler();
    private int calls = 0;

    int callsLeft() {
        return CALLS - calls;
    }

    private ConstraintCompiler counted() {
        if (callsLeft() == 0) {
            throw new AssertionError("a test asks a 513th call, of which nothing is promised");
        }
        calls++;
        return x;
    }

    int expression(int kind, int a, int b, int c) {
        return counted().expression(kind, a, b, c);
    }

    int claim(int kind, int a, int b) {
        return counted().claim(kind, a, b);
    }

    int give(int expression, int value) {
        return counted().give(expression, value);
    }

    int solve() {
        return counted().solve();
    }

    int value(int expression) {
        return counted().value(expression);
    }

    int tamper(int variable, int value) {
        return counted().tamper(variable, value);
    }

    int broken() {
        return counted().broken();
    }

    int first() {
        return counted().first();
    }

    int coefficient(int constraint, int sum, int variable) {
        return counted().coefficient(constraint, sum, variable);
    }

    int terms(int expression) {
        return counted().terms(expression);
    }

    int uses(int variable) {
        return counted().uses(variable);
    }

    int count(int what) {
        return counted().count(what);
    }

    int number(int n) {
        return expression(Checks.NUMBER, n, 0, 0);
    }

    int input(int given) {
        int made = expression(Checks.INPUT, 0, 0, 0);
        give(made, given);
        return made;
    }

    int plus(int a, int b) {
        return expression(Checks.PLUS, a, b, 0);
    }

    int minus(int a, int b) {
        return expression(Checks.MINUS, a, b, 0);
    }

    int times(int a, int b) {
        return expression(Checks.TIMES, a, b, 0);
    }

    int share(int a, int b) {
        return expression(Checks.SHARE, a, b, 0);
    }

    int same(int a, int b) {
        return expression(Checks.SAME, a, b, 0);
    }

    int either(int a, int b, int c) {
        return expression(Checks.EITHER, a, b, c);
    }

    int not(int a) {
        return expression(Checks.NOT, a, 0, 0);
    }

    int power(int a, int b) {
        return expression(Checks.POWER, a, b, 0);
    }

    int equal(int a, int b) {
        return claim(Checks.EQUAL, a, b);
    }

    int bit(int a) {
        return claim(Checks.BIT, a, 0);
    }

    String counts() {
        int[] counts = new int[6];
        for (int what = 0; what < counts.length; what++) {
            counts[what] = count(what);
        }
        return Arrays.toString(counts);
    }

    /** The coefficients of a sum of a constraint for the variables 0 .. until - 1. */
    String row(int constraint, int sum, int until) {
        int[] row = new int[until];
        for (int variable = 0; variable < until; variable++) {
            row[variable] = coefficient(constraint, sum, variable);
        }
        return Arrays.toString(row);
    }

    /** An Integer, or the very class of what is thrown. */
    Object answer(String method, int... p) {
        try {
            return call(method, p);
        } catch (RuntimeException e) {
            return e.getClass();
        }
    }

    private int call(String method, int[] p) {
        return switch (method) {
            case "expression" -> expression(p[0], p[1], p[2], p[3]);
            case "claim" -> claim(p[0], p[1], p[2]);
            case "give" -> give(p[0], p[1]);
            case "solve" -> solve();
            case "value" -> value(p[0]);
            case "tamper" -> tamper(p[0], p[1]);
            case "broken" -> broken();
            case "first" -> first();
            case "coefficient" -> coefficient(p[0], p[1], p[2]);
            case "terms" -> terms(p[0]);
            case "uses" -> uses(p[0]);
            case "count" -> count(p[0]);
            default -> throw new AssertionError("no such method: " + method);
        };
    }
}
