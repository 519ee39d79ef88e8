public final class Promise05SolveTest {
    public static void main(String[] args) {
        inverses();
        answersHowManyDoNotHold();
        failureLeavesTheWitness();
        failureWithoutAWitness();
        failureOfALaterVariable();
        takesInWhatWasMade();
        undoesTampering();
        Checks.end();
    }

    private static void inverses() {
        Subject x = Checks.withInputs(0, 1);
        x.expression(Checks.NUMBER, 0, 0, 0);
        x.expression(Checks.SAME, 0, 2, 0);
        x.expression(Checks.SHARE, 1, 1, 0);
        for (int number = 0; number < 97; number++) {
            x.give(0, number);
            Checks.due("solve", x.solve(), 0);
            int inverse = x.tamper(3, 0);
            Checks.due("inverse of " + number, number * inverse % 97, number == 0 ? 0 : 1);
            Checks.due("is " + number + " 0", x.value(3), number == 0 ? 1 : 0);
        }
    }

    private static void answersHowManyDoNotHold() {
        Subject x = Checks.withInputs(3, 4);
        x.expression(Checks.TIMES, 0, 1, 0);
        x.claim(Checks.EQUAL, 0, 1);
        x.claim(Checks.BIT, 0, 0);
        x.claim(Checks.BIT, 1, 0);
        Checks.due("all claims broken", x.solve(), 3);
        x.give(0, 1);
        Checks.due("two claims broken", x.solve(), 2);
        x.give(1, 1);
        Checks.due("none broken", x.solve(), 0);
    }

    private static void failureLeavesTheWitness() {
        Subject x = Checks.withInputs(8, 2);
        x.expression(Checks.SHARE, 0, 1, 0);
        x.claim(Checks.BIT, 0, 0);
        Checks.due("solve", x.solve(), 1);
        x.tamper(4, 50);
        x.give(0, 9);
        x.give(1, 0);
        x.expression(Checks.INPUT, 0, 0, 0);
        x.claim(Checks.BIT, 0, 0);
        Checks.refusedWhole("solve", x, ArithmeticException.class, x::solve);
        Checks.due("first input", x.value(0), 8);
        Checks.due("second input", x.value(1), 2);
        Checks.due("share, tampered", x.value(2), 50);
        Checks.due("broken", x.broken(), 2);
        Checks.due("what was given stays", x.give(0, 9), 9);
        x.give(1, 3);
        Checks.due("solve", x.solve(), 2);
        Checks.due("9 / 3", x.value(2), 3);
    }

    private static void failureWithoutAWitness() {
        Subject x = Checks.withInputs(8, 0);
        x.expression(Checks.SHARE, 0, 1, 0);
        Checks.refusedWhole("solve", x, ArithmeticException.class, x::solve);
        Checks.refused("value", IllegalStateException.class, () -> x.value(0));
        Checks.refused("broken", IllegalStateException.class, x::broken);
        x.give(1, 4);
        Checks.due("solve", x.solve(), 0);
        Checks.due("8 / 4", x.value(2), 2);
    }

    private static void failureOfALaterVariable() {
        Subject x = Checks.withInputs(5, 7);
        x.expression(Checks.TIMES, 0, 1, 0);
        x.expression(Checks.NUMBER, 35, 0, 0);
        x.expression(Checks.MINUS, 2, 3, 0);
        x.expression(Checks.SHARE, 4, 4, 0);
        Checks.refused("0 by 0", ArithmeticException.class, x::solve);
        x.give(1, 8);
        Checks.due("solve", x.solve(), 0);
        Checks.due("5 by 5", x.value(5), 1);
        x.expression(Checks.NUMBER, 0, 0, 0);
        x.expression(Checks.SHARE, 6, 4, 0);
        x.solve();
        Checks.due("0 by 5", x.value(7), 0);
    }

    private static void takesInWhatWasMade() {
        Subject x = Checks.withInputs(5);
        x.solve();
        x.expression(Checks.TIMES, 0, 0, 0);
        x.claim(Checks.BIT, 1, 0);
        Checks.due("counts", x.counts(), "[2, 3, 2, 1, 1, 2]");
        Checks.due("broken of the old witness", x.broken(), 0);
        Checks.due("solve", x.solve(), 1);
        Checks.due("counts", x.counts(), "[2, 3, 2, 1, 1, 3]");
        Checks.due("square", x.value(1), 25);
    }

    private static void undoesTampering() {
        Subject x = Checks.withInputs(5);
        x.expression(Checks.TIMES, 0, 0, 0);
        x.solve();
        x.tamper(1, 6);
        x.tamper(2, 7);
        Checks.due("solve", x.solve(), 0);
        Checks.due("input", x.value(0), 5);
        Checks.due("square", x.value(1), 25);
    }
}
