public final class Promise12UsesTest {
    public static void main(String[] args) {
        countsConstraints();
        wrongArguments();
        Checks.end();
    }

    private static void countsConstraints() {
        Subject x = Checks.withInputs(1, 2, 3);
        x.expression(Checks.TIMES, 0, 0, 0);
        x.expression(Checks.SHARE, 0, 1, 0);
        x.claim(Checks.EQUAL, 0, 0);
        x.claim(Checks.EQUAL, 0, 3);
        x.claim(Checks.BIT, 1, 0);
        // The one stands in the share's first constraint and in all three claims; x - x has no x.
        int[] due = {4, 3, 2, 0, 2, 2, 1, 0};
        for (int variable = 0; variable < due.length; variable++) {
            Checks.due("uses of " + variable, x.uses(variable), due[variable]);
        }
        x.solve();
        x.claim(Checks.BIT, 2, 0);
        Checks.due("a constraint made behind the witness counts", x.uses(3), 1);
        Checks.due("uses of 59", x.uses(59), 0);
    }

    private static void wrongArguments() {
        Subject x = Checks.withInputs(1);
        for (int wrong : new int[] {-1, 60, Integer.MIN_VALUE, Integer.MAX_VALUE}) {
            Checks.refused("uses of " + wrong, IllegalArgumentException.class, () -> x.uses(wrong));
        }
    }
}
