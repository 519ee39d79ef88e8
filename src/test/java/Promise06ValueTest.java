import java.util.NoSuchElementException;

public final class Promise06ValueTest {
    public static void main(String[] args) {
        valuesOfSums();
        madeBehindTheWitness();
        missingGoesFirst();
        Checks.end();
    }

    private static void valuesOfSums() {
        Subject x = Checks.withInputs(96, 95);
        x.expression(Checks.NUMBER, 96, 0, 0);
        x.expression(Checks.PLUS, 0, 1, 0);
        x.expression(Checks.PLUS, 3, 2, 0);
        x.expression(Checks.TIMES, 2, 4, 0);
        Checks.refused("value without a witness", IllegalStateException.class, () -> x.value(2));
        x.solve();
        Checks.due("number", x.value(2), 96);
        Checks.due("sum", x.value(4), 93);
        Checks.due("sum times -1", x.value(5), 4);
        x.tamper(1, 1);
        Checks.due("sum for the changed witness", x.value(4), 95);
        x.give(0, 50);
        Checks.due("what is given changes nothing", x.value(0), 1);
    }

    /** Old variables alone are enough; a variable whose coefficient is 0 is none of the sum's. */
    private static void madeBehindTheWitness() {
        Subject x = Checks.withInputs(3);
        x.solve();
        x.expression(Checks.PLUS, 0, 0, 0);
        x.expression(Checks.NUMBER, 9, 0, 0);
        x.expression(Checks.INPUT, 0, 0, 0);
        x.expression(Checks.PLUS, 0, 3, 0);
        x.expression(Checks.MINUS, 4, 3, 0);
        x.expression(Checks.TIMES, 0, 0, 0);
        Checks.due("made of old variables", x.value(1), 6);
        Checks.due("a number made behind it", x.value(2), 9);
        Checks.refused("a new input", IllegalStateException.class, () -> x.value(3));
        Checks.refused("old and new", IllegalStateException.class, () -> x.value(4));
        Checks.due("new less itself", x.value(5), 3);
        Checks.refused("a new product", IllegalStateException.class, () -> x.value(6));
        x.solve();
        Checks.due("the new input", x.value(3), 0);
        Checks.due("the new product", x.value(6), 9);
    }

    private static void missingGoesFirst() {
        Subject x = Checks.withInputs(3);
        for (int missing : new int[] {-1, 1, 60, Integer.MIN_VALUE, Integer.MAX_VALUE}) {
            Checks.refused("value of missing " + missing, NoSuchElementException.class, () -> x.value(missing));
        }
        x.solve();
        Checks.refused("value of missing 1", NoSuchElementException.class, () -> x.value(1));
        Checks.refused("value of missing -1", NoSuchElementException.class, () -> x.value(-1));
    }
}
