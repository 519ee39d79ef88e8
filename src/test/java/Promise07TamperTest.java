public final class Promise07TamperTest {
    public static void main(String[] args) {
        answersWhatItWas();
        changesThatVariableAlone();
        wrongArguments();
        Checks.end();
    }

    private static void answersWhatItWas() {
        Subject x = Checks.withInputs(3);
        x.solve();
        int[] values = {5, 96, 97, 98, -1, -97, -98, Integer.MAX_VALUE, Integer.MIN_VALUE, 0};
        int[] kept = {5, 96, 0, 1, 96, 0, 96, 65, 31, 0};
        int before = 3;
        for (int i = 0; i < values.length; i++) {
            Checks.due("tamper to " + values[i], x.tamper(1, values[i]), before);
            before = kept[i];
            Checks.due("value", x.value(0), before);
        }
    }

    private static void changesThatVariableAlone() {
        Subject x = Checks.withInputs(3, 4);
        x.expression(Checks.TIMES, 0, 1, 0);
        x.solve();
        x.tamper(2, 5);
        Checks.due("first input", x.value(0), 3);
        Checks.due("second input", x.value(1), 5);
        Checks.due("product is not worked out again", x.value(2), 12);
        Checks.due("broken", x.broken(), 1);
        Checks.due("product was", x.tamper(3, 15), 12);
        Checks.due("broken", x.broken(), 0);
    }

    private static void wrongArguments() {
        Subject x = Checks.withInputs(3);
        for (int variable : new int[] {-1, 0, 1, 2, 60}) {
            Checks.refusedWhole("tamper " + variable + " without a witness", x, IllegalStateException.class,
                    () -> x.tamper(variable, 0));
        }
        x.solve();
        x.expression(Checks.INPUT, 0, 0, 0);
        for (int variable : new int[] {-1, 0, 2, 59, 60, Integer.MIN_VALUE, Integer.MAX_VALUE}) {
            Checks.refusedWhole("tamper " + variable, x, IllegalArgumentException.class,
                    () -> x.tamper(variable, 0));
        }
        x.solve();
        Checks.due("the new variable", x.tamper(2, 1), 0);
        Checks.refused("tamper 3", IllegalArgumentException.class, () -> x.tamper(3, 0));
    }
}
