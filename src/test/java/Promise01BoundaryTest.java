import java.util.NoSuchElementException;

/** The edges of a new object: what it has is variable 0 alone. */
public final class Promise01BoundaryTest {
    private static final Class<IllegalArgumentException> ARGUMENT = IllegalArgumentException.class;
    private static final Class<IllegalStateException> STATE = IllegalStateException.class;
    private static final Class<NoSuchElementException> ELEMENT = NoSuchElementException.class;

    public static void main(String[] args) {
        Cases.run(Promise01BoundaryTest.class);
    }

    /** "variable 0 is the ONE, always there" */
    static void promise01NewObjectHasTheOneAlone() {
        Checks.due("counts", new Subject().counts(), "[0, 1, 0, 0, 0, 0]");
    }

    static void promise01NewObjectHasNoExpression() {
        Cases.refused(State.EMPTY, ELEMENT, "terms", 0);
        Cases.refused(State.EMPTY, ELEMENT, "value", 0);
        Cases.refused(State.EMPTY, ELEMENT, "give", 0, 1);
        Cases.refused(State.EMPTY, ARGUMENT, "expression", Checks.NOT, 0, 0, 0);
        Cases.refused(State.EMPTY, ARGUMENT, "claim", Checks.BIT, 0, 0);
    }

    static void promise01NewObjectHasNoConstraint() {
        Cases.refused(State.EMPTY, ELEMENT, "coefficient", 0, 0, 0);
        Subject x = new Subject();
        for (int variable = 0; variable <= 59; variable++) {
            Checks.due("uses of " + variable, x.uses(variable), 0);
        }
    }

    static void promise01NewObjectHasNoWitness() {
        Cases.refused(State.EMPTY, STATE, "tamper", 1, 1);
        Cases.refused(State.EMPTY, STATE, "broken");
        Cases.refused(State.EMPTY, STATE, "first");
    }

    static void promise01FirstExpressionIs0() {
        Cases.due(State.EMPTY, 0, "expression", Checks.NUMBER, 5, 0, 0);
        Cases.due(State.EMPTY, 0, "expression", Checks.INPUT, 0, 0, 0);
    }

    static void promise01FirstVariableMadeIs1() {
        Subject x = new Subject();
        x.input(8);
        x.solve();
        Checks.due("variable 1", x.tamper(1, 0), 8);
    }

    static void promise01FirstConstraintIs0() {
        Subject x = new Subject();
        x.number(5);
        Checks.due("first constraint", x.bit(0), 0);
    }

    /** "an input what was given for it last (0 at first)" */
    static void promise01FirstGivenIs0() {
        Subject x = new Subject();
        x.expression(Checks.INPUT, 0, 0, 0);
        Checks.due("what was given before", x.give(0, 8), 0);
    }

    static void promise01EmptyObjectIsSolved() {
        Subject x = new Subject();
        Checks.due("constraints that do not hold", x.solve(), 0);
        Checks.due("counts", x.counts(), "[0, 1, 0, 0, 1, 1]");
        Checks.due("broken", x.broken(), 0);
    }

    static void promise01FullObjectLeavesOthersNew() {
        State besideAFullOne = new State("a new object beside a full one", x -> State.FULL_AND_SOLVED.make());
        Checks.due("answers part", State.EMPTY.answers().partsFrom(Answers.of(besideAFullOne)), "nowhere");
    }

    /** "An object is used for at most 512 calls after it has been made": the making is none of them. */
    static void promise01NewObjectHas512Calls() {
        Subject x = new Subject();
        for (int call = 1; call <= 512; call++) {
            Checks.due("call " + call, x.count(1), 1);
        }
    }
}
