import java.util.List;

/** The edges of tamper: the variables that the witness has, and the remainders of values. */
public final class Promise07BoundaryTest {
    private static final Class<IllegalArgumentException> ARGUMENT = IllegalArgumentException.class;
    private static final Class<IllegalStateException> STATE = IllegalStateException.class;

    public static void main(String[] args) {
        Cases.run(Promise07BoundaryTest.class);
    }

    // "there is no witness"

    static void promise07IsRefusedWithoutAWitness() {
        Cases.refused(State.WITHOUT_A_WITNESS, STATE, "tamper", 1, 8);
        Cases.refused(State.FULL, STATE, "tamper", 59, 8);
    }

    static void promise07FailureAloneGivesNoWitness() {
        State state = State.UNSOLVED.and("failed", x -> {
            x.give(1, 0);
            x.answer("solve");
        });
        Cases.refused(state, STATE, "tamper", 1, 8);
    }

    // "What is thrown is told in the order of testing"

    static void promise07NoWitnessGoesBeforeAWrongVariable() {
        for (int variable : new int[] {Integer.MIN_VALUE, -1, 0, 60, Integer.MAX_VALUE}) {
            Cases.refused(State.WITHOUT_A_WITNESS, STATE, "tamper", variable, 8);
        }
    }

    // "a variable (1 .. 59) of the witness", "it has no such variable"

    static void promise07VariableMinus1IsRefused() {
        Cases.refused(State.WITH_A_WITNESS, ARGUMENT, "tamper", -1, 8);
    }

    static void promise07Variable0IsRefused() {
        Cases.refused(State.WITH_A_WITNESS, ARGUMENT, "tamper", 0, 8);
        Cases.refused(State.WITH_A_WITNESS, ARGUMENT, "tamper", 0, 1);
    }

    static void promise07Variable1IsAllowed() {
        Cases.due(State.SOLVED, 90, "tamper", 1, 8);
    }

    static void promise07LastVariableOfTheWitnessIsAllowed() {
        Cases.due(State.SOLVED, 90 * 90 * 90 % 97, "tamper", State.SOLVED.count(5) - 1, 8);
    }

    static void promise07FirstVariableBehindTheWitnessIsRefused() {
        Cases.refused(State.SOLVED, ARGUMENT, "tamper", State.SOLVED.count(5), 8);
        Cases.refused(State.SOLVED, ARGUMENT, "tamper", State.SOLVED.count(1) - 1, 8);
    }

    static void promise07VariableNotMadeYetIsRefused() {
        for (State state : State.WITH_A_WITNESS) {
            Cases.refused(state, ARGUMENT, "tamper", state.count(1), 8);
        }
    }

    static void promise07Variable59IsAllowed() {
        Cases.due(State.FULL_AND_SOLVED, 50, "tamper", 59, 8);
    }

    static void promise07Variable59IsRefusedBehindTheWitness() {
        State state = State.left(1, 1, 0).and("solved, and one input more", x -> {
            x.solve();
            x.input(9);
        });
        Cases.refused(state, ARGUMENT, "tamper", 59, 8);
        Cases.due(state.and("solved", Subject::solve), 9, "tamper", 59, 8);
    }

    static void promise07Variable60IsRefused() {
        Cases.refused(State.WITH_A_WITNESS, ARGUMENT, "tamper", 60, 8);
    }

    static void promise07VariableFarOffIsRefused() {
        for (int far : Cases.FAR_OFF) {
            Cases.refused(List.of(State.SOLVED, State.FULL_AND_SOLVED), ARGUMENT, "tamper", far, 8);
        }
    }

    static void promise07WitnessOfTheOneAloneHasNoneToTamperWith() {
        State state = State.EMPTY.and("solved", Subject::solve);
        Cases.refused(state, ARGUMENT, "tamper", 0, 8);
        Cases.refused(state, ARGUMENT, "tamper", 1, 8);
        Cases.refused(state.and("and one input more", x -> x.input(9)), ARGUMENT, "tamper", 1, 8);
    }

    static void promise07FailureLetsNoVariableIn() {
        State state = State.FAILING.and("failed", x -> x.answer("solve"));
        Cases.refused(state, ARGUMENT, "tamper", State.SOLVED.count(5), 8);
        Cases.due(state, 50, "tamper", 3, 8);
    }

    // "to a value's remainder; answers what it was"

    private static void tamperedIs(int value, int want) {
        Subject x = new Subject();
        x.input(3);
        x.solve();
        Checks.due("what it was", x.tamper(1, value), 3);
        Checks.due("value of an input tampered to " + value, x.value(0), want);
        Checks.due("what it was", x.tamper(1, 50), want);
    }

    static void promise07TamperedTo0Is0() {
        tamperedIs(0, 0);
    }

    static void promise07TamperedTo1Is1() {
        tamperedIs(1, 1);
    }

    static void promise07TamperedTo96Is96() {
        tamperedIs(96, 96);
    }

    static void promise07TamperedTo97Is0() {
        tamperedIs(97, 0);
    }

    static void promise07TamperedTo98Is1() {
        tamperedIs(98, 1);
    }

    static void promise07TamperedToMinus1Is96() {
        tamperedIs(-1, 96);
    }

    static void promise07TamperedToMinus96Is1() {
        tamperedIs(-96, 1);
    }

    static void promise07TamperedToMinus97Is0() {
        tamperedIs(-97, 0);
    }

    static void promise07TamperedToMinus98Is96() {
        tamperedIs(-98, 96);
    }

    static void promise07LeastIntIs31() {
        tamperedIs(Integer.MIN_VALUE, 31);
    }

    static void promise07GreatestIntIs65() {
        tamperedIs(Integer.MAX_VALUE, 65);
    }

    static void promise07ChangesNoOtherOf59Variables() {
        for (int changed : new int[] {1, 30, 59}) {
            Subject x = State.FULL_AND_SOLVED.make();
            Subject y = State.FULL_AND_SOLVED.make();
            y.tamper(changed, 77);
            for (int variable = 1; variable <= 59; variable++) {
                int was = x.tamper(variable, 0);
                Checks.due("variable " + variable, y.tamper(variable, 0), variable == changed ? 77 : was);
            }
        }
    }

    /** What was given is no part of the witness. */
    static void promise07LeavesWhatWasGiven() {
        Subject x = new Subject();
        x.input(3);
        x.solve();
        x.tamper(1, 50);
        Checks.due("what was given before", x.give(0, 4), 3);
    }

    // "at most 512 calls"

    static void promise07Call512IsAnswered() {
        Cases.dueAsLastCall(State.SOLVED, 90, "tamper", 1, 8);
        Cases.dueAsLastCall(State.SOLVED, ARGUMENT, "tamper", 60, 8);
        Cases.dueAsLastCall(State.FULL, STATE, "tamper", 60, 8);
    }

    static void promise07All510CallsBehindASolvingMayBeTamperings() {
        Subject x = new Subject();
        x.expression(Checks.INPUT, 0, 0, 0);
        x.solve();
        for (int i = 0; i < 510; i++) {
            Checks.due("tampering " + i, x.tamper(1, i + 1), i % 97);
        }
    }

    static void promise07All512CallsMayBeRefused() {
        Cases.refused512Times(STATE, "tamper", 1, 8);
    }
}
