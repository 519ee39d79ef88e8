import java.util.NoSuchElementException;

/** The edges of first: no witness, none that does not hold, constraint 0 and constraint 79. */
public final class Promise09BoundaryTest {
    private static final Class<IllegalStateException> STATE = IllegalStateException.class;
    private static final Class<NoSuchElementException> ELEMENT = NoSuchElementException.class;

    public static void main(String[] args) {
        Cases.run(Promise09BoundaryTest.class);
    }

    private static final State WITH_80 = new State("an object with 80 bits, solved", x -> {
        x.input(1);
        x.input(1);
        x.input(1);
        x.bit(0);
        for (int i = 0; i < 78; i++) {
            x.bit(1);
        }
        x.bit(2);
        x.solve();
    });

    // "there is no witness"

    static void promise09IsRefusedWithoutAWitness() {
        Cases.refused(State.WITHOUT_A_WITNESS, STATE, "first");
    }

    static void promise09FailureAloneGivesNoWitness() {
        State state = State.UNSOLVED.and("failed", x -> {
            x.give(1, 0);
            x.answer("solve");
        });
        Cases.refused(state, STATE, "first");
    }

    /** "in the order of testing": without a constraint all hold, but the witness is missed first. */
    static void promise09NoWitnessGoesBeforeAllHold() {
        Cases.refused(State.EMPTY, STATE, "first");
        Cases.refused(new State("an object with an input", x -> x.input(1)), STATE, "first");
    }

    // "all hold"

    static void promise09IsRefusedWithoutConstraints() {
        Cases.refused(State.EMPTY.and("solved", Subject::solve), ELEMENT, "first");
    }

    static void promise09IsRefusedIfAll80Hold() {
        Cases.refused(WITH_80, ELEMENT, "first");
    }

    static void promise09IsRefusedAgainIfTamperingIsUndone() {
        State state = WITH_80.and("tampered and back", x -> {
            x.tamper(1, 2);
            x.tamper(1, 1);
        });
        Cases.refused(state, ELEMENT, "first");
    }

    // "The least of these"

    static void promise09Constraint0IsTheLeast() {
        State state = WITH_80.and("tampered", x -> {
            x.tamper(1, 2);
            x.tamper(2, 2);
            x.tamper(3, 2);
        });
        Cases.due(state, 0, "first");
    }

    static void promise09Constraint0Alone() {
        Cases.due(WITH_80.and("tampered", x -> x.tamper(1, 2)), 0, "first");
    }

    static void promise09Constraint1IsTheLeast() {
        Cases.due(WITH_80.and("tampered", x -> x.tamper(2, 2)), 1, "first");
    }

    static void promise09Constraint79Alone() {
        Cases.due(WITH_80.and("tampered", x -> x.tamper(3, 2)), 79, "first");
    }

    // "of these": of the constraints that there were when it was solved

    static void promise09FirstConstraintBehindTheWitnessDoesNotCount() {
        State state = new State("an object with a bit behind its witness", x -> {
            x.input(2);
            x.solve();
            x.bit(0);
        });
        Cases.refused(state, ELEMENT, "first");
        Cases.due(state.and("solved", Subject::solve), 0, "first");
    }

    static void promise09ConstraintsWithVariablesBehindTheWitnessDoNotCount() {
        State state = WITH_80.and("tampered", x -> x.tamper(3, 2));
        Cases.due(state.and("and one input more", x -> x.input(5)), 79, "first");
        State few = new State("an object with an input behind its witness", x -> {
            x.input(1);
            x.bit(0);
            x.solve();
            x.input(3);
            x.bit(1);
        });
        Cases.refused(few, ELEMENT, "first");
    }

    static void promise09FailureLetsNoConstraintIn() {
        State state = new State("an object with a bit behind its witness, failed", x -> {
            x.input(2);
            x.share(0, 0);
            x.solve();
            x.bit(0);
            x.give(0, 0);
            x.answer("solve");
        });
        Cases.refused(state, ELEMENT, "first");
    }

    static void promise09GivenAfterwardsChangesNothing() {
        Cases.refused(WITH_80.and("given 2", x -> x.give(0, 2)), ELEMENT, "first");
    }

    // "at most 512 calls"

    static void promise09Call512IsAnswered() {
        Cases.dueAsLastCall(WITH_80.and("tampered", x -> x.tamper(3, 2)), 79, "first");
        Cases.dueAsLastCall(WITH_80, ELEMENT, "first");
        Cases.dueAsLastCall(State.FULL, STATE, "first");
    }

    static void promise09All512CallsMayBeRefused() {
        Cases.refused512Times(STATE, "first");
    }
}
