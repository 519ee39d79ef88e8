import java.util.NoSuchElementException;

public final class Promise10CoefficientTest {
    public static void main(String[] args) {
        coefficients();
        wrongArguments();
        Checks.end();
    }

    private static void coefficients() {
        Subject x = Checks.withInputs(1, 2);
        x.expression(Checks.NUMBER, -3, 0, 0);
        x.expression(Checks.PLUS, 0, 2, 0);
        x.expression(Checks.MINUS, 1, 0, 0);
        x.expression(Checks.TIMES, 3, 4, 0);
        Checks.rows(x, 0, "[94, 1, 0, 0]", "[0, 96, 1, 0]", "[0, 0, 0, 1]");
        for (int sum = 0; sum <= 2; sum++) {
            Checks.due("a variable not made", x.coefficient(0, sum, 4), 0);
            Checks.due("the last variable, not made", x.coefficient(0, sum, 59), 0);
        }
    }

    private static void wrongArguments() {
        Subject x = Checks.withInputs(1);
        x.claim(Checks.BIT, 0, 0);
        for (int missing : new int[] {-1, 1, 80, Integer.MIN_VALUE, Integer.MAX_VALUE}) {
            Checks.refused("constraint " + missing, NoSuchElementException.class,
                    () -> x.coefficient(missing, 0, 0));
            Checks.refused("constraint " + missing + " goes first", NoSuchElementException.class,
                    () -> x.coefficient(missing, 3, 60));
        }
        for (int wrong : new int[] {-1, 3, Integer.MIN_VALUE, Integer.MAX_VALUE}) {
            Checks.refused("sum " + wrong, IllegalArgumentException.class, () -> x.coefficient(0, wrong, 0));
        }
        for (int wrong : new int[] {-1, 60, Integer.MIN_VALUE, Integer.MAX_VALUE}) {
            Checks.refused("variable " + wrong, IllegalArgumentException.class, () -> x.coefficient(0, 0, wrong));
        }
    }
}
