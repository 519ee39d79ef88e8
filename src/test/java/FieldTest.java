/**
 * "THE FIELD is the numbers 0 .. 96 with arithmetic modulo 97": every two of its numbers, as inputs,
 * as numbers of the program and as coefficients, and every three of them in a constraint.
 */
public final class FieldTest {
    private static final int P = 97;

    public static void main(String[] args) {
        for (int a = 0; a < P; a++) {
            inputs(a);
            coefficients(a);
            for (int b = 0; b < P; b++) {
                numbers(a, b);
                constraint(a, b);
            }
        }
        Checks.end();
    }

    private static void value(Subject x, int expression, int want, String what, int a, int b) {
        Checks.due(what + " of " + a + " and " + b, x.value(expression), Math.floorMod(want, P));
    }

    /** An object has calls enough for some 35 second inputs. */
    private static void inputs(int a) {
        for (int from = 0; from < P; from += 35) {
            Subject x = programOfInputs(a);
            for (int b = from; b < Math.min(P, from + 35); b++) {
                x.give(1, b);
                Checks.due("constraints that do not hold for " + a + " and " + b, x.solve(), 0);
                value(x, 2, a + b, "plus", a, b);
                value(x, 3, a - b, "minus", a, b);
                value(x, 4, a * b, "times", a, b);
                value(x, 5, a == b ? 1 : 0, "same", a, b);
                value(x, 6, a * (a - b) + b, "either", a, b);
                value(x, 7, 1 - b, "not", a, b);
                value(x, 8, b * b % P * b % P * b % P * b, "power 5", a, b);
            }
        }
        shares(a);
    }

    private static Subject programOfInputs(int a) {
        Subject x = new Subject();
        x.input(a);
        x.input(0);
        x.plus(0, 1);
        x.minus(0, 1);
        x.times(0, 1);
        x.same(0, 1);
        x.either(0, 1, 0);
        x.not(1);
        x.power(1, 5);
        return x;
    }

    private static void shares(int a) {
        Subject x = new Subject();
        x.input(a);
        x.input(0);
        x.share(0, 1);
        Checks.due(a + " by 0", x.answer("solve"), ArithmeticException.class);
        for (int b = 1; b < P; b++) {
            x.give(1, b);
            Checks.due("constraints that do not hold for " + a + " by " + b, x.solve(), 0);
            Checks.due(a + " by " + b + ", times " + b, x.value(2) * b % P, a);
        }
    }

    private static void numbers(int a, int b) {
        Subject x = new Subject();
        x.number(a);
        x.number(b);
        x.plus(0, 1);
        x.minus(0, 1);
        x.times(0, 1);
        x.either(0, 1, 0);
        x.not(0);
        x.power(0, 3);
        Checks.due("counts", x.counts(), "[8, 1, 0, 0, 0, 0]");
        x.solve();
        value(x, 2, a + b, "plus", a, b);
        value(x, 3, a - b, "minus", a, b);
        value(x, 4, a * b, "times", a, b);
        value(x, 5, a * (a - b) + b, "either", a, b);
        value(x, 6, 1 - a, "not", a, b);
        value(x, 7, a * a * a, "power 3", a, b);
    }

    /** The coefficient of the input x in a x + b x, in a x - b x and in a times b x. */
    private static void coefficients(int a) {
        for (int b = 0; b < P; b++) {
            Subject x = new Subject();
            x.input(1);
            x.number(a);
            x.number(b);
            x.times(1, 0);
            x.times(0, 2);
            x.bit(x.plus(3, 4));
            x.bit(x.minus(3, 4));
            x.bit(x.times(1, 4));
            int[] want = {a + b, a - b, a * b};
            for (int i = 0; i < want.length; i++) {
                Checks.due("coefficient " + i + " of " + a + " and " + b,
                        x.coefficient(i, 0, 1), Math.floorMod(want[i], P));
                Checks.due("its opposite", x.coefficient(i, 1, 1), Math.floorMod(-want[i], P));
            }
        }
    }

    /** "it HOLDS for a witness if the value of A times that of B is that of C" */
    private static void constraint(int a, int b) {
        Subject x = new Subject();
        x.input(a);
        x.input(b);
        x.times(0, 1);
        x.solve();
        for (int c = 0; c < P; c++) {
            x.tamper(3, c);
            Checks.due(a + " times " + b + " being " + c, x.broken(), a * b % P == c ? 0 : 1);
        }
    }
}
