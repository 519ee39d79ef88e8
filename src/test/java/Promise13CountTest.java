public final class Promise13CountTest {
    public static void main(String[] args) {
        counts();
        wrongArguments();
        Checks.end();
    }

    private static void counts() {
        Subject x = Checks.withInputs(1, 2);
        Checks.due("inputs alone", x.counts(), "[2, 3, 0, 2, 0, 0]");
        x.expression(Checks.SHARE, 0, 1, 0);
        Checks.due("with a share", x.counts(), "[3, 5, 2, 2, 0, 0]");
        x.claim(Checks.BIT, 0, 0);
        Checks.due("with a claim", x.counts(), "[3, 5, 3, 2, 0, 0]");
        x.solve();
        Checks.due("with a witness", x.counts(), "[3, 5, 3, 2, 1, 5]");
        x.expression(Checks.INPUT, 0, 0, 0);
        x.expression(Checks.POWER, 0, 1, 0);
        Checks.due("with an input behind it", x.counts(), "[5, 6, 3, 3, 1, 5]");
        x.tamper(1, 7);
        Checks.due("tampered", x.counts(), "[5, 6, 3, 3, 1, 5]");
        x.solve();
        Checks.due("solved again", x.counts(), "[5, 6, 3, 3, 1, 6]");
    }

    private static void wrongArguments() {
        Subject x = Checks.withInputs(1);
        for (int wrong : new int[] {-1, 6, Integer.MIN_VALUE, Integer.MAX_VALUE}) {
            Checks.refused("count " + wrong, IllegalArgumentException.class, () -> x.count(wrong));
        }
    }
}
