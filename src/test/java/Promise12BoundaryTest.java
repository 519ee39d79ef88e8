import java.util.List;

/** The edges of uses: the variables 0 .. 59, in no constraint and in all 80. */
public final class Promise12BoundaryTest {
    private static final Class<IllegalArgumentException> ARGUMENT = IllegalArgumentException.class;

    public static void main(String[] args) {
        Cases.run(Promise12BoundaryTest.class);
    }

    // "a variable (0 .. 59)", "out of range"

    static void promise12VariableMinus1IsRefused() {
        Cases.refused(State.ALL, ARGUMENT, "uses", -1);
    }

    static void promise12Variable0IsAllowed() {
        for (State state : State.ALL) {
            Checks.due("uses of 0 on " + state, state.make().answer("uses", 0) instanceof Integer, true);
        }
    }

    static void promise12Variable59IsAllowed() {
        for (State state : State.ALL) {
            Checks.due("uses of 59 on " + state, state.make().answer("uses", 59) instanceof Integer, true);
        }
    }

    static void promise12Variable60IsRefused() {
        Cases.refused(State.ALL, ARGUMENT, "uses", 60);
    }

    static void promise12VariableFarOffIsRefused() {
        for (int far : Cases.FAR_OFF) {
            Cases.refused(List.of(State.SOLVED, State.FULL_AND_SOLVED), ARGUMENT, "uses", far);
        }
    }

    static void promise12EmptyObjectUsesNone() {
        for (int variable = 0; variable <= 59; variable++) {
            Cases.due(State.EMPTY, 0, "uses", variable);
        }
    }

    static void promise12VariableNotMadeYetIsNotUsed() {
        for (int variable = State.UNSOLVED.count(1); variable <= 59; variable++) {
            Cases.due(State.UNSOLVED, 0, "uses", variable);
        }
    }

    // "In how many constraints"

    static void promise12VariableInAll80Constraints() {
        Subject x = new Subject();
        x.input(3);
        for (int i = 0; i < 80; i++) {
            x.bit(0);
        }
        Checks.due("uses of the input", x.uses(1), 80);
        Checks.due("uses of the one", x.uses(0), 80);
        Checks.due("uses of the next variable", x.uses(2), 0);
    }

    static void promise12VariableInTheLastOf80ConstraintsAlone() {
        Subject x = new Subject();
        x.number(2);
        x.input(3);
        for (int i = 0; i < 79; i++) {
            x.bit(0);
        }
        x.bit(1);
        Checks.due("uses of the input", x.uses(1), 1);
    }

    /** Variable 59 is in C of the last product alone, as nothing can rest on it. */
    static void promise12Variable59IsUsedOnce() {
        State state = State.left(1, 1, 1).and("and a product", x -> x.times(0, 1));
        Cases.due(state, 1, "uses", 59);
    }

    // "has a coefficient that is not 0, in any of the sums"

    static void promise12VariableInAAlone() {
        Subject x = new Subject();
        x.input(3);
        x.input(4);
        x.times(0, 1);
        Checks.due("uses of A's variable", x.uses(1), 1);
    }

    static void promise12VariableInBAlone() {
        Subject x = new Subject();
        x.input(3);
        x.input(4);
        x.times(0, 1);
        Checks.due("uses of B's variable", x.uses(2), 1);
    }

    static void promise12VariableInCAlone() {
        Subject x = new Subject();
        x.input(3);
        x.input(4);
        x.times(0, 1);
        Checks.due("uses of C's variable", x.uses(3), 1);
    }

    static void promise12TheOneInCAlone() {
        Subject x = new Subject();
        x.input(3);
        x.share(0, 0);
        Checks.due("uses of the one", x.uses(0), 1);
    }

    static void promise12VariableInTwoSumsOfAConstraintCountsOnce() {
        Subject x = new Subject();
        x.input(3);
        x.times(0, 0);
        Checks.due("uses behind a square", x.uses(1), 1);
        x.bit(0);
        Checks.due("uses behind a bit", x.uses(1), 2);
    }

    /** In A and C of the first constraint of a SHARE and of a SAME, in A and B of a product. */
    static void promise12TheOneInTwoSumsOfAConstraintCountsOnce() {
        Subject x = new Subject();
        x.number(2);
        x.input(3);
        x.plus(0, 1);
        x.share(1, 2);
        Checks.due("uses behind a share", x.uses(0), 1);
        x.same(2, 1);
        Checks.due("uses behind a same", x.uses(0), 3);
        x.times(2, 2);
        Checks.due("uses behind a product", x.uses(0), 4);
    }

    static void promise12CoefficientThatWrapsTo0IsNoUse() {
        Subject x = new Subject();
        x.input(3);
        x.number(96);
        x.times(0, 1);
        x.plus(0, 2);
        x.bit(3);
        x.equal(0, 0);
        Checks.due("uses of the input", x.uses(1), 0);
        Checks.due("uses of the one", x.uses(0), 2);
    }

    static void promise12ConstraintsBehindTheWitnessCount() {
        Subject x = new Subject();
        x.input(3);
        x.solve();
        x.bit(0);
        Checks.due("uses of the input", x.uses(1), 1);
    }

    static void promise12RefusedExpressionUsesNothing() {
        State state = State.left(1, 2, 1).and("refused", x -> x.answer("expression", Checks.SHARE, 0, 1, 0));
        Cases.due(state, State.left(1, 2, 1).make().uses(2), "uses", 2);
        Cases.due(state, 0, "uses", 58);
    }

    // "at most 512 calls"

    static void promise12Call512IsAnswered() {
        Cases.dueAsLastCall(State.FULL, 80, "uses", 1);
        Cases.dueAsLastCall(State.EMPTY, 0, "uses", 59);
        Cases.dueAsLastCall(State.FULL, ARGUMENT, "uses", 60);
    }

    static void promise12All512CallsMayBeRefused() {
        Cases.refused512Times(ARGUMENT, "uses", 60);
    }
}
