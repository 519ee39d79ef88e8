import java.util.List;

/** The edges of claim: its two kinds, the expressions it names, and the 80 constraints. */
public final class Promise03BoundaryTest {
    private static final Class<IllegalArgumentException> ARGUMENT = IllegalArgumentException.class;
    private static final Class<IllegalStateException> STATE = IllegalStateException.class;
    private static final List<State> SOME = List.of(State.SOLVED, State.FULL_AND_SOLVED);

    public static void main(String[] args) {
        Cases.run(Promise03BoundaryTest.class);
    }

    // "another kind"

    static void promise03KindMinus1IsRefused() {
        Cases.refused(State.ALL, ARGUMENT, "claim", -1, 0, 0);
    }

    static void promise03Kind0IsAllowed() {
        Cases.due(State.UNSOLVED, 10, "claim", 0, 0, 0);
    }

    static void promise03Kind1IsAllowed() {
        Cases.due(State.UNSOLVED, 10, "claim", 1, 0, 0);
    }

    static void promise03Kind2IsRefused() {
        Cases.refused(State.ALL, ARGUMENT, "claim", 2, 0, 0);
    }

    static void promise03KindFarOffIsRefused() {
        for (int kind : Cases.FAR_OFF) {
            Cases.refused(SOME, ARGUMENT, "claim", kind, 0, 0);
        }
    }

    // "or an expression that was not made"

    static void promise03EqualOfAMinus1IsRefused() {
        Cases.refused(State.WITH_EXPRESSIONS, ARGUMENT, "claim", Checks.EQUAL, -1, 0);
    }

    static void promise03EqualOfBMinus1IsRefused() {
        Cases.refused(State.WITH_EXPRESSIONS, ARGUMENT, "claim", Checks.EQUAL, 0, -1);
    }

    static void promise03BitOfAMinus1IsRefused() {
        Cases.refused(State.WITH_EXPRESSIONS, ARGUMENT, "claim", Checks.BIT, -1, 0);
    }

    static void promise03EqualOfTheFirstAndLastMadeIsAllowed() {
        Cases.due(State.UNSOLVED, 10, "claim", Checks.EQUAL, 0, 10);
        Cases.due(State.UNSOLVED, 10, "claim", Checks.EQUAL, 10, 0);
    }

    static void promise03BitOfTheLastMadeIsAllowed() {
        Cases.due(State.UNSOLVED, 10, "claim", Checks.BIT, 10, 0);
    }

    static void promise03EqualOfANotMadeYetIsRefused() {
        for (State state : State.WITH_EXPRESSIONS) {
            Cases.refused(state, ARGUMENT, "claim", Checks.EQUAL, state.count(0), 0);
        }
    }

    static void promise03EqualOfBNotMadeYetIsRefused() {
        for (State state : State.WITH_EXPRESSIONS) {
            Cases.refused(state, ARGUMENT, "claim", Checks.EQUAL, 0, state.count(0));
        }
    }

    static void promise03BitOfANotMadeYetIsRefused() {
        for (State state : State.WITH_EXPRESSIONS) {
            Cases.refused(state, ARGUMENT, "claim", Checks.BIT, state.count(0), 0);
        }
    }

    static void promise03ExpressionsFarOffAreRefused() {
        for (int far : Cases.FAR_OFF) {
            Cases.refused(SOME, ARGUMENT, "claim", Checks.EQUAL, far, 0);
            Cases.refused(SOME, ARGUMENT, "claim", Checks.EQUAL, 0, far);
            Cases.refused(SOME, ARGUMENT, "claim", Checks.BIT, far, 0);
        }
    }

    static void promise03EmptyObjectHasNothingToClaim() {
        Cases.refused(State.EMPTY, ARGUMENT, "claim", Checks.EQUAL, 0, 0);
        Cases.refused(State.EMPTY, ARGUMENT, "claim", Checks.BIT, 0, 0);
    }

    static void promise03Expression59CanBeClaimed() {
        State state = State.left(0, 0, 1);
        Cases.due(state, 79, "claim", Checks.EQUAL, 59, 59);
        Cases.due(state, 79, "claim", Checks.BIT, 59, 0);
        Cases.refused(state, ARGUMENT, "claim", Checks.EQUAL, 60, 59);
        Cases.refused(state, ARGUMENT, "claim", Checks.EQUAL, 59, 60);
        Cases.refused(state, ARGUMENT, "claim", Checks.BIT, 60, 0);
    }

    /** "BIT a" names no second expression. */
    static void promise03BitHasNoUseForB() {
        Answers want = Answers.of(bitWith(0));
        for (int any : new int[] {Integer.MIN_VALUE, -1, 1, 10, 11, 60, Integer.MAX_VALUE}) {
            Cases.due(State.UNSOLVED, 10, "claim", Checks.BIT, 0, any);
            Checks.due("a bit with " + any + " in b", want.partsFrom(Answers.of(bitWith(any))), "nowhere");
        }
    }

    private static State bitWith(int b) {
        return State.UNSOLVED.and("with a bit, solved", x -> {
            x.claim(Checks.BIT, 0, b);
            x.solve();
        });
    }

    // "80 constraints are there"

    static void promise03Constraint79IsTheLastEqual() {
        Subject x = new Subject();
        x.number(5);
        for (int i = 0; i < 80; i++) {
            Checks.due("equal", x.equal(0, 0), i);
        }
        Checks.due("the next", x.answer("claim", Checks.EQUAL, 0, 0), STATE);
        Checks.due("constraints", x.count(2), 80);
    }

    static void promise03Constraint79IsTheLastBit() {
        Subject x = new Subject();
        x.number(5);
        for (int i = 0; i < 80; i++) {
            Checks.due("bit", x.bit(0), i);
        }
        Checks.due("the next", x.answer("claim", Checks.BIT, 0, 0), STATE);
        Checks.due("constraints", x.count(2), 80);
    }

    static void promise03ConstraintsOfExpressionsCountToo() {
        Subject x = State.left(5, 5, 3).make();
        x.share(0, 1);
        Checks.due("the last", x.bit(0), 79);
        Checks.due("the next", x.answer("claim", Checks.BIT, 0, 0), STATE);
    }

    static void promise03ClaimIsRefusedAsAWholeBehind80Constraints() {
        for (State state : List.of(State.FULL_OF_CONSTRAINTS, State.FULL, State.FULL_AND_SOLVED)) {
            Cases.refused(state, STATE, "claim", Checks.EQUAL, 0, 1);
            Cases.refused(state, STATE, "claim", Checks.BIT, 0, 0);
        }
    }

    static void promise03ClaimNeedsNoExpressionAndNoVariable() {
        Cases.due(State.left(0, 0, 1), 79, "claim", Checks.EQUAL, 0, 1);
        Cases.due(State.left(0, 0, 1), 79, "claim", Checks.BIT, 0, 0);
    }

    // "What is thrown is told in the order of testing"

    static void promise03WrongKindGoesBeforeNoRoom() {
        Cases.refused(State.FULL_OF_CONSTRAINTS, ARGUMENT, "claim", -1, 0, 0);
        Cases.refused(State.FULL_OF_CONSTRAINTS, ARGUMENT, "claim", 2, 0, 0);
    }

    static void promise03MissingAGoesBeforeNoRoom() {
        int missing = State.FULL_OF_CONSTRAINTS.count(0);
        Cases.refused(State.FULL_OF_CONSTRAINTS, ARGUMENT, "claim", Checks.EQUAL, missing, 0);
        Cases.refused(State.FULL_OF_CONSTRAINTS, ARGUMENT, "claim", Checks.BIT, missing, 0);
    }

    static void promise03MissingBGoesBeforeNoRoom() {
        int missing = State.FULL_OF_CONSTRAINTS.count(0);
        Cases.refused(State.FULL_OF_CONSTRAINTS, ARGUMENT, "claim", Checks.EQUAL, 0, missing);
    }

    // The sums of claims at the edges of the field

    private static void holds(int kind, int a, int b, boolean want) {
        Subject x = new Subject();
        x.input(a);
        x.input(b);
        x.claim(kind, 0, 1);
        Checks.due("claim " + kind + " of " + a + " and " + b, x.solve(), want ? 0 : 1);
    }

    static void promise03BitHoldsFor0And1Alone() {
        for (int number = 0; number <= 96; number++) {
            holds(Checks.BIT, number, 0, number <= 1);
        }
    }

    static void promise03EqualHoldsForTheSameRemainderAlone() {
        holds(Checks.EQUAL, 0, 96, false);
        holds(Checks.EQUAL, 96, 0, false);
        holds(Checks.EQUAL, 96, 96, true);
        holds(Checks.EQUAL, 97, 0, true);
        holds(Checks.EQUAL, -1, 96, true);
        holds(Checks.EQUAL, Integer.MIN_VALUE, 31, true);
        holds(Checks.EQUAL, Integer.MAX_VALUE, 65, true);
    }

    static void promise03EqualOfOneAndTheSameHasNoTermInA() {
        Subject x = State.UNSOLVED.make();
        int made = x.equal(0, 0);
        Checks.due("A", x.row(made, 0, 60).contains("1"), false);
        Checks.due("the one in B", x.coefficient(made, 1, 0), 1);
        Checks.due("C", x.row(made, 2, 60).contains("1"), false);
    }

    static void promise03BitOf1HasNoTermInB() {
        Subject x = new Subject();
        x.number(1);
        x.bit(0);
        Checks.due("A", x.coefficient(0, 0, 0), 1);
        Checks.due("B", x.coefficient(0, 1, 0), 0);
        Checks.due("C", x.coefficient(0, 2, 0), 0);
    }

    // "at most 512 calls"

    static void promise03Call512IsAnswered() {
        Cases.dueAsLastCall(State.UNSOLVED, 10, "claim", Checks.EQUAL, 0, 1);
        Cases.dueAsLastCall(State.UNSOLVED, 10, "claim", Checks.BIT, 0, 1);
        Cases.dueAsLastCall(State.FULL, STATE, "claim", Checks.BIT, 0, 1);
        Cases.dueAsLastCall(State.FULL, ARGUMENT, "claim", Checks.BIT, 60, 1);
    }

    static void promise03All511CallsBehindAnExpressionMayBeClaims() {
        Subject x = new Subject();
        x.number(5);
        for (int i = 0; i < 511; i++) {
            Checks.due("claim " + i, x.answer("claim", i % 2, 0, 0), i < 80 ? i : STATE);
        }
    }

    static void promise03All512CallsMayBeRefused() {
        Cases.refused512Times(ARGUMENT, "claim", Checks.BIT, 0, 0);
    }
}
