import java.util.List;
import java.util.NoSuchElementException;

/** The edges of coefficient: its constraints, its three sums, and the variables 0 .. 59. */
public final class Promise10BoundaryTest {
    private static final Class<IllegalArgumentException> ARGUMENT = IllegalArgumentException.class;
    private static final Class<NoSuchElementException> ELEMENT = NoSuchElementException.class;
    private static final List<State> SOME = List.of(State.SOLVED, State.FULL_AND_SOLVED);
    private static final List<State> WITH_CONSTRAINTS = State.WITH_EXPRESSIONS;

    public static void main(String[] args) {
        Cases.run(Promise10BoundaryTest.class);
    }

    // "no such constraint"

    static void promise10ConstraintMinus1IsRefused() {
        Cases.refused(State.ALL, ELEMENT, "coefficient", -1, 0, 0);
    }

    static void promise10Constraint0IsAllowed() {
        Cases.due(State.UNSOLVED, 1, "coefficient", 0, 0, 1);
    }

    /** UNSOLVED's last constraint is the bit of r, variable 7: r, 1 - r, 0. */
    static void promise10LastConstraintMadeIsAllowed() {
        Cases.due(State.UNSOLVED, 1, "coefficient", 9, 0, 7);
        Cases.due(State.UNSOLVED, 96, "coefficient", 9, 1, 7);
        Cases.due(State.UNSOLVED, 0, "coefficient", 9, 2, 7);
    }

    static void promise10ConstraintNotMadeYetIsRefused() {
        for (State state : State.ALL) {
            Cases.refused(state, ELEMENT, "coefficient", state.count(2), 0, 0);
        }
    }

    static void promise10Constraint79IsAllowed() {
        Cases.due(State.FULL, 1, "coefficient", 79, 0, 1);
        Cases.due(State.FULL, 96, "coefficient", 79, 1, 1);
    }

    static void promise10Constraint80IsRefused() {
        Cases.refused(State.FULL, ELEMENT, "coefficient", 80, 0, 0);
        Cases.refused(State.FULL_OF_CONSTRAINTS, ELEMENT, "coefficient", 80, 0, 0);
    }

    static void promise10ConstraintFarOffIsRefused() {
        for (int far : Cases.FAR_OFF) {
            Cases.refused(SOME, ELEMENT, "coefficient", far, 0, 0);
        }
    }

    static void promise10EmptyObjectHasNoCoefficients() {
        Cases.refused(State.EMPTY, ELEMENT, "coefficient", 0, 0, 0);
    }

    static void promise10RefusedExpressionLeavesNoConstraint() {
        State state = State.left(1, 2, 1).and("refused", x -> x.answer("expression", Checks.SHARE, 0, 1, 0));
        Cases.refused(state, ELEMENT, "coefficient", 79, 0, 0);
    }

    // "another sum"

    static void promise10SumMinus1IsRefused() {
        Cases.refused(WITH_CONSTRAINTS, ARGUMENT, "coefficient", 0, -1, 0);
    }

    /** Constraint 0 of UNSOLVED is that of a product: variable 1, variable 2, variable 3. */
    static void promise10Sum0IsA() {
        Checks.due("A", State.UNSOLVED.make().row(0, 0, 5), "[0, 1, 0, 0, 0]");
    }

    static void promise10Sum1IsB() {
        Checks.due("B", State.UNSOLVED.make().row(0, 1, 5), "[0, 0, 1, 0, 0]");
    }

    static void promise10Sum2IsC() {
        Checks.due("C", State.UNSOLVED.make().row(0, 2, 5), "[0, 0, 0, 1, 0]");
    }

    static void promise10Sum3IsRefused() {
        Cases.refused(WITH_CONSTRAINTS, ARGUMENT, "coefficient", 0, 3, 0);
    }

    static void promise10SumFarOffIsRefused() {
        for (int far : Cases.FAR_OFF) {
            Cases.refused(SOME, ARGUMENT, "coefficient", 0, far, 0);
        }
    }

    // "a variable (0 .. 59)", "another ... variable"

    static void promise10VariableMinus1IsRefused() {
        for (int sum = 0; sum <= 2; sum++) {
            Cases.refused(WITH_CONSTRAINTS, ARGUMENT, "coefficient", 0, sum, -1);
        }
    }

    static void promise10Variable0IsAllowed() {
        Cases.due(State.UNSOLVED, 1, "coefficient", 1, 2, 0);
    }

    static void promise10Variable59IsAllowed() {
        State state = State.left(1, 1, 1).and("and a product", x -> x.times(0, 1));
        Cases.due(state, 1, "coefficient", 79, 2, 59);
    }

    /** Those not made yet stand in the range, and in no sum. */
    static void promise10VariableNotMadeYetHas0() {
        Subject x = State.UNSOLVED.make();
        for (int sum = 0; sum <= 2; sum++) {
            for (int variable = x.count(1); variable <= 59; variable++) {
                Checks.due("coefficient of " + variable, x.coefficient(0, sum, variable), 0);
            }
        }
    }

    static void promise10Variable60IsRefused() {
        for (int sum = 0; sum <= 2; sum++) {
            Cases.refused(WITH_CONSTRAINTS, ARGUMENT, "coefficient", 0, sum, 60);
        }
    }

    static void promise10VariableFarOffIsRefused() {
        for (int far : Cases.FAR_OFF) {
            Cases.refused(SOME, ARGUMENT, "coefficient", 0, 0, far);
        }
    }

    // "What is thrown is told in the order of testing"

    static void promise10MissingConstraintGoesBeforeAWrongSum() {
        for (State state : State.ALL) {
            Cases.refused(state, ELEMENT, "coefficient", -1, -1, 0);
            Cases.refused(state, ELEMENT, "coefficient", state.count(2), 3, 0);
        }
    }

    static void promise10MissingConstraintGoesBeforeAWrongVariable() {
        for (State state : State.ALL) {
            Cases.refused(state, ELEMENT, "coefficient", -1, 0, -1);
            Cases.refused(state, ELEMENT, "coefficient", state.count(2), 0, 60);
        }
    }

    // "A SUM has a coefficient (0 .. 96) for each variable"

    static void promise10CoefficientsAre0To96() {
        Subject x = new Subject();
        x.input(3);
        x.number(0);
        x.not(0);
        for (int i = 0; i < 50; i++) {
            x.bit(x.plus(x.count(0) - 1, x.count(0) - 1));
        }
        int want = 1;
        for (int i = 0; i < 50; i++) {
            want = want * 2 % 97;
            Checks.due("the one in A", x.coefficient(i, 0, 0), want);
            Checks.due("the input in A", x.coefficient(i, 0, 1), 97 - want);
            Checks.due("the one in B", x.coefficient(i, 1, 0), Math.floorMod(1 - want, 97));
            Checks.due("the input in B", x.coefficient(i, 1, 1), want);
        }
    }

    static void promise10MinusOneIs96() {
        Subject x = new Subject();
        x.input(3);
        x.number(0);
        x.minus(1, 0);
        x.bit(2);
        Checks.due("A", x.row(0, 0, 2), "[0, 96]");
        Checks.due("B", x.row(0, 1, 2), "[1, 1]");
    }

    /** A constraint keeps its sums, whatever is made, given and tampered with behind it. */
    static void promise10CoefficientsStay() {
        Subject x = new Subject();
        x.input(3);
        x.times(0, 0);
        x.bit(0);
        String before = x.row(0, 0, 20) + x.row(0, 1, 20) + x.row(0, 2, 20) + x.row(1, 1, 20);
        x.power(0, 5);
        x.plus(0, 1);
        x.solve();
        x.tamper(1, 50);
        x.give(0, 60);
        String behind = x.row(0, 0, 20) + x.row(0, 1, 20) + x.row(0, 2, 20) + x.row(1, 1, 20);
        Checks.due("rows", behind, before);
    }

    // "at most 512 calls"

    static void promise10Call512IsAnswered() {
        Cases.dueAsLastCall(State.FULL, 96, "coefficient", 79, 1, 1);
        Cases.dueAsLastCall(State.FULL, ELEMENT, "coefficient", 80, 3, 60);
        Cases.dueAsLastCall(State.FULL, ARGUMENT, "coefficient", 79, 3, 1);
        Cases.dueAsLastCall(State.FULL, ARGUMENT, "coefficient", 79, 2, 60);
    }

    static void promise10All512CallsMayBeRefused() {
        Cases.refused512Times(ELEMENT, "coefficient", 0, 0, 0);
    }
}
