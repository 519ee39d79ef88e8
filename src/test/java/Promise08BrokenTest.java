public final class Promise08BrokenTest {
    public static void main(String[] args) {
        findsWhatIsChanged();
        constraintsMadeLaterDoNotCount();
        needsAWitness();
        Checks.end();
    }

    private static void findsWhatIsChanged() {
        Subject x = Checks.withInputs(6, 2);
        x.expression(Checks.TIMES, 0, 1, 0);
        x.expression(Checks.SHARE, 0, 1, 0);
        x.expression(Checks.SAME, 0, 1, 0);
        x.claim(Checks.BIT, 4, 0);
        x.solve();
        Checks.due("none at first", x.broken(), 0);
        // Each variable's number of broken constraints once it alone is one more than it was.
        int[] due = {3, 3, 1, 2, 1, 1, 2};
        for (int variable = 1; variable <= due.length; variable++) {
            int before = x.tamper(variable, 0);
            x.tamper(variable, before + 1);
            Checks.due("variable " + variable + " changed", x.broken(), due[variable - 1]);
            x.tamper(variable, before);
            Checks.due("variable " + variable + " changed back", x.broken(), 0);
        }
    }

    private static void constraintsMadeLaterDoNotCount() {
        Subject x = Checks.withInputs(6);
        x.claim(Checks.BIT, 0, 0);
        x.solve();
        x.claim(Checks.BIT, 0, 0);
        Checks.due("one of two", x.broken(), 1);
        x.solve();
        Checks.due("both", x.broken(), 2);
    }

    private static void needsAWitness() {
        Subject x = Checks.withInputs(6);
        x.claim(Checks.BIT, 0, 0);
        Checks.refusedWhole("broken", x, IllegalStateException.class, x::broken);
    }
}
