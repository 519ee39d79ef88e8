import java.util.NoSuchElementException;

public final class Promise11TermsTest {
    public static void main(String[] args) {
        countsCoefficients();
        everyVariableAtOnce();
        wrongArguments();
        Checks.end();
    }

    private static void countsCoefficients() {
        Subject x = Checks.withInputs(1, 2);
        x.expression(Checks.NUMBER, 97, 0, 0);
        x.expression(Checks.NUMBER, 5, 0, 0);
        x.expression(Checks.PLUS, 0, 1, 0);
        x.expression(Checks.PLUS, 4, 3, 0);
        x.expression(Checks.MINUS, 5, 0, 0);
        x.expression(Checks.TIMES, 2, 5, 0);
        int[] due = {1, 1, 0, 1, 2, 3, 2, 0};
        for (int i = 0; i < due.length; i++) {
            Checks.due("terms of " + i, x.terms(i), due[i]);
        }
    }

    private static void everyVariableAtOnce() {
        Subject x = Checks.withInputs(1);
        int sum = x.expression(Checks.NOT, 0, 0, 0);
        while (x.count(0) < 59) {
            int square = x.expression(Checks.TIMES, 0, 0, 0);
            sum = x.expression(Checks.PLUS, sum, square, 0);
        }
        Checks.due("variables", x.count(1), x.terms(sum));
        int last = sum;
        x.solve();
        Checks.due("value", x.value(last), x.count(1) - 2);
    }

    private static void wrongArguments() {
        Subject x = Checks.withInputs(1);
        for (int missing : new int[] {-1, 1, 60, Integer.MIN_VALUE, Integer.MAX_VALUE}) {
            Checks.refused("terms of missing " + missing, NoSuchElementException.class, () -> x.terms(missing));
        }
    }
}
