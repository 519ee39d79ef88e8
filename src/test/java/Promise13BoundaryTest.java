import java.util.List;

/** The edges of count: what it knows, each count at its least and its greatest. */
public final class Promise13BoundaryTest {
    private static final Class<IllegalArgumentException> ARGUMENT = IllegalArgumentException.class;

    public static void main(String[] args) {
        Cases.run(Promise13BoundaryTest.class);
    }

    // "another number"

    static void promise13Minus1IsRefused() {
        Cases.refused(State.ALL, ARGUMENT, "count", -1);
    }

    static void promise13Number0IsAllowed() {
        Cases.due(State.UNSOLVED, 11, "count", 0);
    }

    static void promise13Number5IsAllowed() {
        Cases.due(State.SOLVED, 11, "count", 5);
    }

    static void promise13Number6IsRefused() {
        Cases.refused(State.ALL, ARGUMENT, "count", 6);
    }

    static void promise13NumbersFarOffAreRefused() {
        for (int far : Cases.FAR_OFF) {
            Cases.refused(List.of(State.SOLVED, State.FULL_AND_SOLVED), ARGUMENT, "count", far);
        }
    }

    // The least and the greatest of each

    static void promise13ExpressionsAre0To60() {
        Cases.due(State.EMPTY, 0, "count", 0);
        Cases.due(State.left(1, 0, 0), 59, "count", 0);
        Cases.due(State.FULL, 60, "count", 0);
    }

    static void promise13VariablesAre1To60() {
        Cases.due(State.EMPTY, 1, "count", 1);
        Cases.due(State.left(0, 1, 0), 59, "count", 1);
        Cases.due(State.FULL, 60, "count", 1);
    }

    static void promise13ConstraintsAre0To80() {
        Cases.due(State.EMPTY, 0, "count", 2);
        Cases.due(State.left(0, 0, 1), 79, "count", 2);
        Cases.due(State.FULL, 80, "count", 2);
    }

    static void promise13InputsAre0To59() {
        Cases.due(State.EMPTY, 0, "count", 3);
        Subject x = new Subject();
        for (int i = 0; i < 59; i++) {
            x.expression(Checks.INPUT, 0, 0, 0);
            Checks.due("inputs", x.count(3), i + 1);
        }
        x.answer("expression", Checks.INPUT, 0, 0, 0);
        Checks.due("inputs behind a refusal", x.count(3), 59);
    }

    static void promise13OtherKindsAreNoInputs() {
        Cases.due(State.UNSOLVED, 2, "count", 3);
        Cases.due(State.FULL, 1, "count", 3);
    }

    static void promise13WitnessIs0Or1() {
        for (State state : State.WITHOUT_A_WITNESS) {
            Cases.due(state, 0, "count", 4);
        }
        for (State state : State.WITH_A_WITNESS) {
            Cases.due(state, 1, "count", 4);
        }
        Cases.due(State.FULL.and("solved twice", x -> {
            x.solve();
            x.solve();
        }), 1, "count", 4);
    }

    /** "the variables that it has, 0 without one" */
    static void promise13VariablesOfTheWitnessAre0WithoutOne() {
        for (State state : State.WITHOUT_A_WITNESS) {
            Cases.due(state, 0, "count", 5);
        }
    }

    static void promise13VariablesOfTheWitnessAre1To60() {
        Cases.due(State.EMPTY.and("solved", Subject::solve), 1, "count", 5);
        Cases.due(State.left(0, 1, 0).and("solved", Subject::solve), 59, "count", 5);
        Cases.due(State.FULL_AND_SOLVED, 60, "count", 5);
    }

    static void promise13VariablesBehindTheWitnessAreNotItsOwn() {
        Subject x = new Subject();
        x.input(3);
        x.solve();
        x.input(4);
        x.times(0, 0);
        Checks.due("counts", x.counts(), "[3, 4, 1, 2, 1, 2]");
        x.solve();
        Checks.due("counts", x.counts(), "[3, 4, 1, 2, 1, 4]");
    }

    static void promise13FailureLeavesTheCounts() {
        Subject x = State.FAILING.make();
        String before = x.counts();
        Checks.due("solve", x.answer("solve"), ArithmeticException.class);
        Checks.due("counts", x.counts(), before);
        Checks.due("the witness has fewer variables than there are", x.count(5) < x.count(1), true);
    }

    static void promise13RefusedCallsLeaveTheCounts() {
        Subject x = State.FULL_AND_SOLVED.make();
        for (int kind = -1; kind <= 10; kind++) {
            x.answer("expression", kind, 0, 1, 0);
            x.answer("claim", kind, 0, 0);
            x.answer("give", 1, 8);
            x.answer("tamper", 0, 8);
        }
        Checks.due("counts", x.counts(), "[60, 60, 80, 1, 1, 60]");
    }

    // "at most 512 calls"

    static void promise13Call512IsAnswered() {
        int[] want = {60, 60, 80, 1, 1, 60};
        for (int what = 0; what <= 5; what++) {
            Cases.dueAsLastCall(State.FULL_AND_SOLVED, want[what], "count", what);
        }
        Cases.dueAsLastCall(State.FULL_AND_SOLVED, ARGUMENT, "count", 6);
    }

    static void promise13All512CallsMayBeRefused() {
        Cases.refused512Times(ARGUMENT, "count", 6);
    }
}
