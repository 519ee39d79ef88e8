import java.util.NoSuchElementException;

public final class Promise04GiveTest {
    public static void main(String[] args) {
        answersTheOneBefore();
        everyInputHasItsOwn();
        doesNotChangeTheWitness();
        wrongArguments();
        Checks.end();
    }

    private static void answersTheOneBefore() {
        Subject x = new Subject();
        x.expression(Checks.INPUT, 0, 0, 0);
        int[] given = {5, 96, 97, 98, -1, -97, -98, Integer.MAX_VALUE, Integer.MIN_VALUE, 0};
        int[] kept = {5, 96, 0, 1, 96, 0, 96, 65, 31, 0};
        int before = 0;
        for (int i = 0; i < given.length; i++) {
            Checks.due("give " + given[i], x.give(0, given[i]), before);
            before = kept[i];
            x.solve();
            Checks.due("value of " + given[i], x.value(0), before);
        }
    }

    private static void everyInputHasItsOwn() {
        Subject x = new Subject();
        x.expression(Checks.INPUT, 0, 0, 0);
        x.expression(Checks.NUMBER, 7, 0, 0);
        x.expression(Checks.TIMES, 0, 0, 0);
        x.expression(Checks.INPUT, 0, 0, 0);
        x.give(0, 6);
        x.give(3, 8);
        x.solve();
        Checks.due("first input", x.value(0), 6);
        Checks.due("second input", x.value(3), 8);
        Checks.due("first again", x.give(0, 1), 6);
        Checks.due("second again", x.give(3, 1), 8);
    }

    private static void doesNotChangeTheWitness() {
        Subject x = Checks.withInputs(6);
        x.claim(Checks.BIT, 0, 0);
        x.solve();
        x.give(0, 1);
        Checks.due("value", x.value(0), 6);
        Checks.due("broken", x.broken(), 1);
        x.tamper(1, 50);
        Checks.due("tampering gives nothing", x.give(0, 2), 1);
    }

    private static void wrongArguments() {
        Subject x = Checks.withInputs(6, 7);
        x.expression(Checks.NUMBER, 1, 0, 0);
        for (int kind = Checks.PLUS; kind <= Checks.POWER; kind++) {
            x.expression(kind, 0, 1, 0);
        }
        // The power 1 has the very sum of the input, but it is another kind all the same.
        for (int other = 2; other < x.count(0); other++) {
            int expression = other;
            Checks.refusedWhole("give to expression " + other, x, UnsupportedOperationException.class,
                    () -> x.give(expression, 50));
        }
        for (int missing : new int[] {-1, x.count(0), 60, Integer.MIN_VALUE, Integer.MAX_VALUE}) {
            Checks.refusedWhole("give to missing " + missing, x, NoSuchElementException.class,
                    () -> x.give(missing, 50));
        }
        Checks.due("the first is as it was", x.give(0, 0), 6);
        Checks.due("the second is as it was", x.give(1, 0), 7);
    }
}
