/** The edges of broken: no witness, none and all of 80 constraints, and those made behind the witness. */
public final class Promise08BoundaryTest {
    private static final Class<IllegalStateException> STATE = IllegalStateException.class;

    public static void main(String[] args) {
        Cases.run(Promise08BoundaryTest.class);
    }

    // "there is no witness"

    static void promise08IsRefusedWithoutAWitness() {
        Cases.refused(State.WITHOUT_A_WITNESS, STATE, "broken");
    }

    static void promise08FailureAloneGivesNoWitness() {
        State state = State.UNSOLVED.and("failed", x -> {
            x.give(1, 0);
            x.answer("solve");
        });
        Cases.refused(state, STATE, "broken");
    }

    // "How many of the constraints ... do not hold"

    static void promise08EmptyObjectHasNone() {
        Cases.due(State.EMPTY.and("solved", Subject::solve), 0, "broken");
    }

    private static final State WITH_80 = new State("an object with 80 bits, solved", x -> {
        x.input(1);
        x.input(1);
        for (int i = 0; i < 79; i++) {
            x.bit(0);
        }
        x.bit(1);
        x.solve();
    });

    static void promise08NoneOf80() {
        Cases.due(WITH_80, 0, "broken");
    }

    static void promise08TheLastOf80() {
        Cases.due(WITH_80.and("tampered", x -> x.tamper(2, 2)), 1, "broken");
    }

    static void promise08AllButTheLastOf80() {
        Cases.due(WITH_80.and("tampered", x -> x.tamper(1, 2)), 79, "broken");
    }

    static void promise08All80() {
        State state = WITH_80.and("tampered", x -> {
            x.tamper(1, 2);
            x.tamper(2, 96);
        });
        Cases.due(state, 80, "broken");
    }

    // "for the witness as it is"

    static void promise08FollowsTamperingAndItsUndoing() {
        Subject x = WITH_80.make();
        x.tamper(1, 2);
        Checks.due("tampered", x.broken(), 79);
        x.tamper(1, 1);
        Checks.due("undone", x.broken(), 0);
        x.tamper(1, 97);
        Checks.due("tampered to 97, which is 0", x.broken(), 0);
        x.tamper(1, -96);
        Checks.due("tampered to -96, which is 1", x.broken(), 0);
        x.tamper(1, -95);
        Checks.due("tampered to -95, which is 2", x.broken(), 79);
    }

    /** A product that is one off is found out, at the edges of the field too. */
    static void promise08ProductThatIsOneOffIsFoundOut() {
        for (int given : new int[] {0, 1, 96}) {
            Subject x = new Subject();
            x.input(given);
            x.times(0, 0);
            x.solve();
            int right = x.tamper(2, 0);
            for (int number = 0; number <= 96; number++) {
                x.tamper(2, number);
                Checks.due(given + " times itself being " + number, x.broken(), number == right ? 0 : 1);
            }
        }
    }

    // "that there were when it was solved"

    static void promise08FirstConstraintBehindTheWitnessDoesNotCount() {
        Subject x = new Subject();
        x.input(2);
        x.bit(0);
        x.solve();
        x.bit(0);
        Checks.due("one of two", x.broken(), 1);
        x.solve();
        Checks.due("both", x.broken(), 2);
    }

    static void promise08NoConstraintBehindAnEmptyWitnessCounts() {
        Subject x = new Subject();
        x.solve();
        x.number(2);
        while (x.count(2) < 80) {
            x.bit(0);
        }
        Checks.due("broken", x.broken(), 0);
        Checks.due("solve", x.solve(), 80);
        Checks.due("broken", x.broken(), 80);
    }

    /** The new constraint has a variable of which the witness has no number. */
    static void promise08ConstraintsWithVariablesBehindTheWitnessDoNotCount() {
        Subject x = new Subject();
        x.input(2);
        x.solve();
        x.input(3);
        x.bit(1);
        x.times(1, 1);
        Checks.due("broken", x.broken(), 0);
    }

    static void promise08FailureLetsNoConstraintIn() {
        Subject x = State.FAILING.make();
        int before = x.broken();
        x.bit(x.number(2));
        x.answer("solve");
        Checks.due("broken", x.broken(), before);
    }

    static void promise08GivenAfterwardsChangesNothing() {
        Subject x = WITH_80.make();
        x.give(0, 2);
        x.give(1, 2);
        Checks.due("broken", x.broken(), 0);
    }

    // "at most 512 calls"

    static void promise08Call512IsAnswered() {
        Cases.dueAsLastCall(State.SOLVED, State.SOLVED.make().broken(), "broken");
        Cases.dueAsLastCall(WITH_80, 0, "broken");
        Cases.dueAsLastCall(State.FULL, STATE, "broken");
    }

    static void promise08All512CallsMayBeRefused() {
        Cases.refused512Times(STATE, "broken");
    }
}
