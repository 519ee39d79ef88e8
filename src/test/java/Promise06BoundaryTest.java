import java.util.List;
import java.util.NoSuchElementException;

/** The edges of value: missing expressions, no witness, and what was made behind it. */
public final class Promise06BoundaryTest {
    private static final Class<IllegalStateException> STATE = IllegalStateException.class;
    private static final Class<NoSuchElementException> ELEMENT = NoSuchElementException.class;

    public static void main(String[] args) {
        Cases.run(Promise06BoundaryTest.class);
    }

    // "no such expression"

    static void promise06ExpressionMinus1IsRefused() {
        Cases.refused(State.WITH_A_WITNESS, ELEMENT, "value", -1);
    }

    static void promise06Expression0IsAllowed() {
        Cases.due(State.SOLVED, 90, "value", 0);
    }

    static void promise06LastExpressionMadeIsAllowed() {
        Cases.due(State.UNSOLVED.and("solved", Subject::solve), 90 * 90 * 90 % 97, "value", 10);
    }

    static void promise06ExpressionNotMadeYetIsRefused() {
        for (State state : State.WITH_A_WITNESS) {
            Cases.refused(state, ELEMENT, "value", state.count(0));
        }
    }

    static void promise06Expression59IsAllowed() {
        State state = State.left(1, 1, 0).and("and one input more, solved", x -> {
            x.input(9);
            x.solve();
        });
        Cases.due(state, 9, "value", 59);
        Cases.refused(state, ELEMENT, "value", 60);
    }

    static void promise06ExpressionFarOffIsRefused() {
        for (int far : Cases.FAR_OFF) {
            Cases.refused(List.of(State.SOLVED, State.FULL_AND_SOLVED), ELEMENT, "value", far);
        }
    }

    static void promise06EmptyObjectHasNoValues() {
        Cases.refused(State.EMPTY, ELEMENT, "value", 0);
        Cases.refused(State.EMPTY.and("solved", Subject::solve), ELEMENT, "value", 0);
    }

    // "there is no witness"

    static void promise06EveryKindIsRefusedWithoutAWitness() {
        for (int expression = 0; expression <= 10; expression++) {
            Cases.refused(State.UNSOLVED, STATE, "value", expression);
        }
        Cases.refused(State.FULL, STATE, "value", 59);
    }

    static void promise06NumbersAreRefusedWithoutAWitness() {
        State state = new State("an object with the numbers 0 and 5", x -> {
            x.number(0);
            x.number(5);
        });
        Cases.refused(state, STATE, "value", 0);
        Cases.refused(state, STATE, "value", 1);
    }

    static void promise06FailureAloneGivesNoWitness() {
        State state = State.UNSOLVED.and("failed", x -> {
            x.give(1, 0);
            x.answer("solve");
        });
        Cases.refused(state, STATE, "value", 0);
    }

    // "What is thrown is told in the order of testing"

    static void promise06MissingExpressionGoesBeforeNoWitness() {
        for (State state : State.WITHOUT_A_WITNESS) {
            Cases.refused(state, ELEMENT, "value", -1);
            Cases.refused(state, ELEMENT, "value", state.count(0));
        }
        Cases.refused(State.FULL, ELEMENT, "value", 60);
    }

    // "or the expression has a variable that was made behind it"

    private static final State BEHIND = new State("an object with things made behind its witness", x -> {
        x.input(3);
        x.input(4);
        x.solve();
        x.input(5);
        x.plus(1, 2);
        x.minus(3, 2);
        x.times(0, 1);
        x.number(6);
        x.plus(0, 1);
        x.same(0, 0);
    });

    static void promise06LastVariableOfTheWitnessIsAllowed() {
        Cases.due(BEHIND, 4, "value", 1);
    }

    static void promise06FirstVariableBehindTheWitnessIsRefused() {
        Cases.refused(BEHIND, STATE, "value", 2);
    }

    static void promise06OneVariableBehindAmongOthersIsRefused() {
        Cases.refused(BEHIND, STATE, "value", 3);
    }

    /** Its coefficient is 0 again, so the sum has no variable behind the witness. */
    static void promise06VariableBehindThatCancelsOutIsAllowed() {
        Cases.due(BEHIND, 4, "value", 4);
    }

    static void promise06ProductBehindTheWitnessIsRefused() {
        Cases.refused(BEHIND, STATE, "value", 5);
    }

    static void promise06NumberBehindTheWitnessIsAllowed() {
        Cases.due(BEHIND, 6, "value", 6);
    }

    static void promise06SumOfOldVariablesBehindTheWitnessIsAllowed() {
        Cases.due(BEHIND, 7, "value", 7);
    }

    /** Not the number of an expression counts, but the variables that it has. */
    static void promise06EveryExpressionOfOldVariablesIsAllowed() {
        Subject x = new Subject();
        x.input(3);
        x.input(4);
        x.solve();
        for (int made = 2; made < 60; made++) {
            x.plus(made - 2, made - 1);
        }
        int last = 3;
        int next = 4;
        for (int made = 0; made < 60; made++) {
            Checks.due("value " + made, x.value(made), last);
            int sum = (last + next) % 97;
            last = next;
            next = sum;
        }
    }

    static void promise06SameBehindTheWitnessIsRefused() {
        Cases.refused(BEHIND, STATE, "value", 8);
    }

    static void promise06NextSolvingLetsThemIn() {
        State state = BEHIND.and("solved", Subject::solve);
        int[] want = {3, 4, 5, 9, 4, 12, 6, 7, 1};
        for (int expression = 0; expression < want.length; expression++) {
            Cases.due(state, want[expression], "value", expression);
        }
    }

    static void promise06WitnessOfTheOneAloneHasNumbers() {
        State state = State.EMPTY.and("solved, then made", x -> {
            x.solve();
            x.number(-1);
            x.number(0);
            x.input(5);
        });
        Cases.due(state, 96, "value", 0);
        Cases.due(state, 0, "value", 1);
        Cases.refused(state, STATE, "value", 2);
    }

    static void promise06LastVariableOfAllIsRefusedBehindTheWitness() {
        State state = State.left(1, 1, 0).and("solved, and one input more", x -> {
            x.solve();
            x.input(9);
        });
        Cases.due(state, 59, "count", 5);
        Cases.refused(state, STATE, "value", 59);
    }

    static void promise06FailureLeavesWhatWasMadeBehind() {
        State state = State.FAILING.and("failed", x -> x.answer("solve"));
        Cases.refused(state, STATE, "value", 11);
        Cases.due(state, 90, "value", 0);
    }

    // The edges of the field

    static void promise06ValueWrapsFrom96To0() {
        Subject x = new Subject();
        x.input(96);
        x.number(1);
        x.plus(0, 1);
        x.minus(2, 1);
        x.plus(0, 0);
        x.solve();
        Checks.due("96 + 1", x.value(2), 0);
        Checks.due("96 + 1 - 1", x.value(3), 96);
        Checks.due("96 + 96", x.value(4), 95);
    }

    static void promise06ValueFollowsTampering() {
        Subject x = State.FULL_AND_SOLVED.make();
        int before = x.value(59);
        x.tamper(59, x.tamper(59, 0) + 96);
        Checks.due("value", x.value(59), Math.floorMod(before - 1, 97));
    }

    // "at most 512 calls"

    static void promise06Call512IsAnswered() {
        Cases.dueAsLastCall(State.SOLVED, 90, "value", 0);
        Cases.dueAsLastCall(State.SOLVED, STATE, "value", 11);
        Cases.dueAsLastCall(State.FULL, STATE, "value", 59);
        Cases.dueAsLastCall(State.FULL, ELEMENT, "value", 60);
    }

    static void promise06All512CallsMayBeRefused() {
        Cases.refused512Times(ELEMENT, "value", 0);
    }
}
