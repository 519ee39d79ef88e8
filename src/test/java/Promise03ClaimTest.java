public final class Promise03ClaimTest {
    public static void main(String[] args) {
        constraintsOfClaims();
        claimsOfConstants();
        wrongArguments();
        noRoom();
        Checks.end();
    }

    private static void constraintsOfClaims() {
        Subject x = Checks.withInputs(4, 9);
        Checks.due("equal", x.claim(Checks.EQUAL, 0, 1), 0);
        Checks.due("bit", x.claim(Checks.BIT, 1, 0), 1);
        Checks.due("counts", x.counts(), "[2, 3, 2, 2, 0, 0]");
        Checks.rows(x, 0, "[0, 1, 96]", "[1, 0, 0]", "[0, 0, 0]");
        Checks.rows(x, 1, "[0, 0, 1]", "[1, 0, 96]", "[0, 0, 0]");
        int[][] runs = {{4, 9, 2}, {9, 9, 1}, {0, 0, 0}, {1, 1, 0}, {0, 1, 1}, {2, 2, 1}, {98, 1, 0}};
        for (int[] run : runs) {
            x.give(0, run[0]);
            x.give(1, run[1]);
            Checks.due("broken for " + run[0] + " and " + run[1], x.solve(), run[2]);
        }
    }

    private static void claimsOfConstants() {
        Subject x = new Subject();
        x.expression(Checks.NUMBER, 1, 0, 0);
        x.expression(Checks.NUMBER, 2, 0, 0);
        x.claim(Checks.EQUAL, 0, 0);
        x.claim(Checks.EQUAL, 0, 1);
        x.claim(Checks.BIT, 0, 0);
        x.claim(Checks.BIT, 1, 0);
        Checks.rows(x, 0, "[0]", "[1]", "[0]");
        Checks.rows(x, 1, "[96]", "[1]", "[0]");
        Checks.rows(x, 2, "[1]", "[0]", "[0]");
        Checks.rows(x, 3, "[2]", "[96]", "[0]");
        Checks.due("broken", x.solve(), 2);
        Checks.due("first", x.first(), 1);
    }

    private static void wrongArguments() {
        Subject x = Checks.withInputs(4);
        for (int kind : new int[] {-1, 2, Integer.MIN_VALUE, Integer.MAX_VALUE}) {
            wrong(x, kind, 0, 0);
        }
        for (int missing : new int[] {-1, 1, Integer.MIN_VALUE, Integer.MAX_VALUE}) {
            wrong(x, Checks.EQUAL, missing, 0);
            wrong(x, Checks.EQUAL, 0, missing);
            wrong(x, Checks.BIT, missing, 0);
            Checks.due("b of a bit may be anything", x.claim(Checks.BIT, 0, missing), x.count(2) - 1);
        }
    }

    private static void wrong(Subject x, int kind, int a, int b) {
        Checks.refusedWhole("claim " + kind + " " + a + " " + b, x, IllegalArgumentException.class,
                () -> x.claim(kind, a, b));
    }

    private static void noRoom() {
        Subject x = Checks.withInputs(4);
        for (int i = 0; i < 80; i++) {
            Checks.due("claim", x.claim(i % 2, 0, 0), i);
        }
        Checks.refusedWhole("the 81st, equal", x, IllegalStateException.class, () -> x.claim(Checks.EQUAL, 0, 0));
        Checks.refusedWhole("the 81st, bit", x, IllegalStateException.class, () -> x.claim(Checks.BIT, 0, 0));
        wrong(x, 2, 0, 0);
        wrong(x, Checks.EQUAL, 0, 1);
        wrong(x, Checks.BIT, 1, 0);
        Checks.due("broken", x.solve(), 40);
        Checks.due("the last of them", x.coefficient(79, 1, 1), 96);
    }
}
