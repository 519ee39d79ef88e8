import java.util.List;

/** The edges of expression: its kinds, the expressions it names, its numbers, and the room it needs. */
public final class Promise02BoundaryTest {
    private static final Class<IllegalArgumentException> ARGUMENT = IllegalArgumentException.class;
    private static final Class<IllegalStateException> STATE = IllegalStateException.class;
    private static final List<State> SOME = List.of(State.SOLVED, State.FULL_AND_SOLVED);
    /** Expressions 1, 7 and 10 are made, 11, the one that is being made, and those behind it are not. */
    private static final int[] ANYTHING = {
        Integer.MIN_VALUE, -97, -1, 0, 1, 7, 10, 11, 60, 77, 97, Integer.MAX_VALUE
    };

    public static void main(String[] args) {
        Cases.run(Promise02BoundaryTest.class);
    }

    // "kind not 0 .. 9"

    static void promise02KindMinus1IsRefused() {
        Cases.refused(State.ALL, ARGUMENT, "expression", -1, 0, 1, 0);
    }

    static void promise02Kind0IsAllowed() {
        Cases.due(State.EMPTY, 0, "expression", 0, 0, 0, 0);
    }

    static void promise02Kind9IsAllowed() {
        Cases.due(State.UNSOLVED, 11, "expression", 9, 0, 1, 0);
    }

    static void promise02Kind10IsRefused() {
        Cases.refused(State.ALL, ARGUMENT, "expression", 10, 0, 1, 0);
    }

    static void promise02KindFarOffIsRefused() {
        for (int kind : Cases.FAR_OFF) {
            Cases.refused(SOME, ARGUMENT, "expression", kind, 0, 1, 0);
        }
    }

    // "an expression named (a for 2 to 9; b for 2 to 7; c for 7) that was not made"

    static void promise02AMinus1IsRefused() {
        for (int kind = Checks.PLUS; kind <= Checks.POWER; kind++) {
            Cases.refused(State.WITH_EXPRESSIONS, ARGUMENT, "expression", kind, -1, 1, 0);
        }
    }

    static void promise02A0IsAllowed() {
        for (int kind = Checks.PLUS; kind <= Checks.POWER; kind++) {
            Cases.due(State.UNSOLVED, 11, "expression", kind, 0, 1, 1);
        }
    }

    static void promise02ALastMadeIsAllowed() {
        for (int kind = Checks.PLUS; kind <= Checks.POWER; kind++) {
            Cases.due(State.UNSOLVED, 11, "expression", kind, 10, 1, 1);
        }
    }

    static void promise02AItselfIsRefused() {
        for (State state : State.WITH_EXPRESSIONS) {
            for (int kind = Checks.PLUS; kind <= Checks.POWER; kind++) {
                Cases.refused(state, ARGUMENT, "expression", kind, state.count(0), 1, 0);
            }
        }
    }

    static void promise02AFarOffIsRefused() {
        for (int a : Cases.FAR_OFF) {
            for (int kind = Checks.PLUS; kind <= Checks.POWER; kind++) {
                Cases.refused(SOME, ARGUMENT, "expression", kind, a, 1, 0);
            }
        }
    }

    static void promise02BMinus1IsRefused() {
        for (int kind = Checks.PLUS; kind <= Checks.EITHER; kind++) {
            Cases.refused(State.WITH_EXPRESSIONS, ARGUMENT, "expression", kind, 0, -1, 0);
        }
    }

    static void promise02B0IsAllowed() {
        for (int kind = Checks.PLUS; kind <= Checks.EITHER; kind++) {
            Cases.due(State.UNSOLVED, 11, "expression", kind, 1, 0, 1);
        }
    }

    static void promise02BLastMadeIsAllowed() {
        for (int kind = Checks.PLUS; kind <= Checks.EITHER; kind++) {
            Cases.due(State.UNSOLVED, 11, "expression", kind, 1, 10, 1);
        }
    }

    static void promise02BItselfIsRefused() {
        for (State state : State.WITH_EXPRESSIONS) {
            for (int kind = Checks.PLUS; kind <= Checks.EITHER; kind++) {
                Cases.refused(state, ARGUMENT, "expression", kind, 0, state.count(0), 0);
            }
        }
    }

    static void promise02BFarOffIsRefused() {
        for (int b : Cases.FAR_OFF) {
            for (int kind = Checks.PLUS; kind <= Checks.EITHER; kind++) {
                Cases.refused(SOME, ARGUMENT, "expression", kind, 0, b, 0);
            }
        }
    }

    static void promise02CMinus1IsRefused() {
        Cases.refused(State.WITH_EXPRESSIONS, ARGUMENT, "expression", Checks.EITHER, 0, 1, -1);
    }

    static void promise02C0IsAllowed() {
        Cases.due(State.UNSOLVED, 11, "expression", Checks.EITHER, 0, 1, 0);
    }

    static void promise02CLastMadeIsAllowed() {
        Cases.due(State.UNSOLVED, 11, "expression", Checks.EITHER, 0, 1, 10);
    }

    static void promise02CItselfIsRefused() {
        for (State state : State.WITH_EXPRESSIONS) {
            Cases.refused(state, ARGUMENT, "expression", Checks.EITHER, 0, 1, state.count(0));
        }
    }

    static void promise02CFarOffIsRefused() {
        for (int c : Cases.FAR_OFF) {
            Cases.refused(SOME, ARGUMENT, "expression", Checks.EITHER, 0, 1, c);
        }
    }

    static void promise02EmptyObjectHasNothingToName() {
        for (int kind = Checks.PLUS; kind <= Checks.POWER; kind++) {
            Cases.refused(State.EMPTY, ARGUMENT, "expression", kind, 0, 0, 0);
            Cases.refused(State.EMPTY, ARGUMENT, "expression", kind, 0, 1, 0);
        }
    }

    static void promise02LastExpressionMayNameTheOneBefore() {
        Cases.due(State.left(1, 5, 5), 59, "expression", Checks.EITHER, 58, 58, 58);
        Cases.refused(State.left(1, 5, 5), ARGUMENT, "expression", Checks.EITHER, 59, 58, 58);
        Cases.refused(State.left(1, 5, 5), ARGUMENT, "expression", Checks.EITHER, 58, 59, 58);
        Cases.refused(State.left(1, 5, 5), ARGUMENT, "expression", Checks.EITHER, 58, 58, 59);
    }

    static void promise02RefusedExpressionCannotBeNamed() {
        State refused = State.left(2, 0, 0).and("refused", x -> x.answer("expression", Checks.INPUT, 0, 0, 0));
        Cases.refused(refused, ARGUMENT, "expression", Checks.NOT, 58, 0, 0);
        Cases.due(refused, 58, "expression", Checks.NOT, 57, 0, 0);
    }

    // "b not 1 .. 5 (9)"

    static void promise02PowerMinus1IsRefused() {
        Cases.refused(State.WITH_EXPRESSIONS, ARGUMENT, "expression", Checks.POWER, 0, -1, 0);
    }

    static void promise02Power0IsRefused() {
        Cases.refused(State.WITH_EXPRESSIONS, ARGUMENT, "expression", Checks.POWER, 0, 0, 0);
    }

    static void promise02Power1IsAllowedAndMakesNothing() {
        Subject x = new Subject();
        x.input(3);
        Checks.due("number", x.power(0, 1), 1);
        Checks.due("counts", x.counts(), "[2, 2, 0, 1, 0, 0]");
        x.solve();
        Checks.due("value", x.value(1), 3);
    }

    static void promise02Power5IsAllowedAndMakesFourOfEach() {
        Subject x = new Subject();
        x.input(3);
        Checks.due("number", x.power(0, 5), 1);
        Checks.due("counts", x.counts(), "[2, 6, 4, 1, 0, 0]");
        for (int i = 0; i < 4; i++) {
            Checks.due("what there is, in A", x.coefficient(i, 0, i + 1), 1);
            Checks.due("the input, in B", x.coefficient(i, 1, 1), 1);
            Checks.due("the product, in C", x.coefficient(i, 2, i + 2), 1);
        }
        x.solve();
        Checks.due("value", x.value(1), 243 % 97);
    }

    /** "each as for 4 of what there is and a": in this order, and one after the other. */
    static void promise02EveryPowerIsMadeByProductsWithA() {
        for (int b = 1; b <= 5; b++) {
            Subject x = new Subject();
            x.input(3);
            x.not(0);
            x.power(1, b);
            Checks.due("counts", x.counts(), "[3, " + (b + 1) + ", " + (b - 1) + ", 1, 0, 0]");
            for (int i = 0; i < b - 1; i++) {
                Checks.due("what there is, in A of " + i, x.coefficient(i, 0, i + 1), i == 0 ? 96 : 1);
                Checks.due("the one in A of " + i, x.coefficient(i, 0, 0), i == 0 ? 1 : 0);
                Checks.due("a, in B of " + i, x.row(i, 1, 2), "[1, 96]");
                Checks.due("the product, in C of " + i, x.coefficient(i, 2, i + 2), 1);
            }
        }
    }

    static void promise02Power6IsRefused() {
        Cases.refused(State.WITH_EXPRESSIONS, ARGUMENT, "expression", Checks.POWER, 0, 6, 0);
    }

    static void promise02PowerFarOffIsRefused() {
        for (int b : Cases.FAR_OFF) {
            Cases.refused(SOME, ARGUMENT, "expression", Checks.POWER, 0, b, 0);
        }
    }

    /** 4 names no expression here, and 0 does. */
    static void promise02PowerNamesNoExpressionByB() {
        State one = new State("an object with one input", x -> x.input(3));
        Cases.due(one, 1, "expression", Checks.POWER, 0, 4, 0);
        Cases.refused(one, ARGUMENT, "expression", Checks.POWER, 0, 0, 0);
    }

    // "its remainder by 97, from 0 on"

    private static void numberIs(int number, int want) {
        Subject x = new Subject();
        x.number(number);
        x.equal(0, 0);
        x.bit(0);
        x.solve();
        Checks.due("value of the number " + number, x.value(0), want);
        Checks.due("coefficient of the number " + number, x.coefficient(1, 0, 0), want);
        Checks.due("terms of the number " + number, x.terms(0), want == 0 ? 0 : 1);
    }

    static void promise02Number0Is0() {
        numberIs(0, 0);
    }

    static void promise02Number1Is1() {
        numberIs(1, 1);
    }

    static void promise02Number96Is96() {
        numberIs(96, 96);
    }

    static void promise02Number97Is0() {
        numberIs(97, 0);
    }

    static void promise02Number98Is1() {
        numberIs(98, 1);
    }

    static void promise02NumberMinus1Is96() {
        numberIs(-1, 96);
    }

    static void promise02NumberMinus96Is1() {
        numberIs(-96, 1);
    }

    static void promise02NumberMinus97Is0() {
        numberIs(-97, 0);
    }

    static void promise02NumberMinus98Is96() {
        numberIs(-98, 96);
    }

    static void promise02LeastIntIs31() {
        numberIs(Integer.MIN_VALUE, 31);
    }

    static void promise02GreatestIntIs65() {
        numberIs(Integer.MAX_VALUE, 65);
    }

    // "THE FIELD is the numbers 0 .. 96 with arithmetic modulo 97"

    private static void valueIs(int want, int kind, int a, int b) {
        Subject numbers = new Subject();
        numbers.number(a);
        numbers.number(b);
        numbers.expression(kind, 0, 1, 0);
        numbers.solve();
        Checks.due("kind " + kind + " of the numbers " + a + " and " + b, numbers.value(2), want);
        Subject inputs = new Subject();
        inputs.input(a);
        inputs.input(b);
        inputs.expression(kind, 0, 1, 0);
        inputs.solve();
        Checks.due("kind " + kind + " of the inputs " + a + " and " + b, inputs.value(2), want);
    }

    static void promise02PlusWrapsFrom96To0() {
        valueIs(96, Checks.PLUS, 95, 1);
        valueIs(0, Checks.PLUS, 96, 1);
        valueIs(95, Checks.PLUS, 96, 96);
    }

    static void promise02MinusWrapsFrom0To96() {
        valueIs(0, Checks.MINUS, 1, 1);
        valueIs(96, Checks.MINUS, 0, 1);
        valueIs(1, Checks.MINUS, 0, 96);
    }

    static void promise02TimesWraps() {
        valueIs(96, Checks.TIMES, 48, 2);
        valueIs(1, Checks.TIMES, 49, 2);
        valueIs(1, Checks.TIMES, 96, 96);
        valueIs(0, Checks.TIMES, 96, 0);
    }

    static void promise02NotWrapsBehind1() {
        Subject x = new Subject();
        int[] given = {0, 1, 2, 96};
        int[] want = {1, 0, 96, 2};
        x.input(0);
        x.not(0);
        for (int i = 0; i < given.length; i++) {
            x.give(0, given[i]);
            x.solve();
            Checks.due("not " + given[i], x.value(1), want[i]);
        }
    }

    static void promise02PowerWraps() {
        Subject x = new Subject();
        x.number(96);
        x.input(96);
        for (int a = 0; a <= 1; a++) {
            for (int b = 1; b <= 5; b++) {
                x.power(a, b);
            }
        }
        x.solve();
        for (int i = 0; i < 10; i++) {
            Checks.due("96 to the power " + (i % 5 + 1), x.value(2 + i), i % 5 % 2 == 0 ? 96 : 1);
        }
    }

    static void promise02CoefficientWrapsFrom96To0() {
        Subject x = new Subject();
        x.input(3);
        x.number(96);
        x.times(0, 1);
        x.plus(2, 0);
        x.plus(0, 0);
        x.plus(2, 4);
        Checks.due("terms of 96 x", x.terms(2), 1);
        Checks.due("terms of 97 x", x.terms(3), 0);
        Checks.due("terms of 98 x", x.terms(5), 1);
        x.bit(2);
        x.bit(5);
        Checks.due("96 x", x.coefficient(0, 0, 1), 96);
        Checks.due("98 x", x.coefficient(1, 0, 1), 1);
    }

    // "A sum is CONSTANT if only the coefficient of variable 0 is not 0."

    private static void makesNothing(Subject x, int kind, int a, int b, int c) {
        String before = x.counts();
        int made = x.expression(kind, a, b, c);
        String behind = x.counts();
        Checks.due("kind " + kind + " makes an expression alone", behind,
                before.replaceFirst("\\d+", Integer.toString(made + 1)));
    }

    static void promise02SumWithoutTermsIsConstant() {
        Subject x = new Subject();
        x.input(3);
        x.minus(0, 0);
        x.number(97);
        makesNothing(x, Checks.TIMES, 0, 1, 0);
        makesNothing(x, Checks.TIMES, 1, 0, 0);
        makesNothing(x, Checks.TIMES, 0, 2, 0);
        makesNothing(x, Checks.TIMES, 2, 0, 0);
        makesNothing(x, Checks.POWER, 1, 5, 0);
        makesNothing(x, Checks.EITHER, 0, 2, 1);
        for (int made = 3; made <= 6; made++) {
            Checks.due("terms of a product with 0", x.terms(made), 0);
        }
    }

    static void promise02SumWhoseVariableWrapsAwayIsConstant() {
        Subject x = new Subject();
        x.input(3);
        x.number(96);
        x.times(0, 1);
        x.plus(0, 2);
        x.plus(3, 1);
        makesNothing(x, Checks.TIMES, 4, 0, 0);
        makesNothing(x, Checks.TIMES, 0, 4, 0);
        x.solve();
        Checks.due("96 x 3", x.value(5), 94);
        Checks.due("3 x 96", x.value(6), 94);
    }

    static void promise02SumOfANumberAndAVariableIsNotConstant() {
        Subject x = new Subject();
        x.input(3);
        x.number(5);
        x.plus(0, 1);
        x.times(2, 2);
        Checks.due("counts", x.counts(), "[4, 3, 1, 1, 0, 0]");
    }

    static void promise02LastVariableIsNotConstant() {
        State last = State.left(2, 1, 5).and("and one input more", x -> x.input(6));
        Cases.due(last, 60, "count", 1);
        Cases.refused(last, STATE, "expression", Checks.TIMES, 58, 58, 0);
    }

    static void promise02EitherWithCConstantMakesNothing() {
        Subject x = new Subject();
        x.input(30);
        x.input(50);
        x.number(0);
        x.number(1);
        makesNothing(x, Checks.EITHER, 0, 1, 2);
        makesNothing(x, Checks.EITHER, 0, 1, 3);
        x.solve();
        Checks.due("b", x.value(4), 50);
        Checks.due("a", x.value(5), 30);
    }

    /** "a if c is 1, b if it is 0" */
    static void promise02EitherIsAFor1AndBFor0() {
        Subject x = new Subject();
        x.input(30);
        x.input(50);
        x.input(0);
        x.either(0, 1, 2);
        int[] given = {0, 1, 97, 98, -96, -97};
        int[] want = {50, 30, 50, 30, 30, 50};
        for (int i = 0; i < given.length; i++) {
            x.give(2, given[i]);
            Checks.due("solve", x.solve(), 0);
            Checks.due("value with c given " + given[i], x.value(3), want[i]);
        }
    }

    static void promise02EitherOfOneAndTheSameMakesNothing() {
        Subject x = new Subject();
        x.input(30);
        x.input(50);
        makesNothing(x, Checks.EITHER, 0, 0, 1);
        x.solve();
        Checks.due("value", x.value(2), 30);
    }

    /** "as for 4 of c and (a - b)": not c, but (a - b) may be the constant one. */
    static void promise02EitherWithAConstantDifferenceMakesNothing() {
        Subject x = new Subject();
        x.input(30);
        x.number(2);
        x.plus(0, 1);
        makesNothing(x, Checks.EITHER, 2, 0, 0);
        x.solve();
        Checks.due("30 times 2, plus 30", x.value(3), 90);
    }

    static void promise02ShareOfConstantsMakesTwoOfEach() {
        Subject x = new Subject();
        x.number(1);
        x.share(0, 0);
        Checks.due("counts", x.counts(), "[2, 3, 2, 0, 0, 0]");
        Checks.due("b, i, 1", x.row(0, 0, 3) + x.row(0, 1, 3) + x.row(0, 2, 3), "[1, 0, 0][0, 1, 0][1, 0, 0]");
        Checks.due("a, i, q", x.row(1, 0, 3) + x.row(1, 1, 3) + x.row(1, 2, 3), "[1, 0, 0][0, 1, 0][0, 0, 1]");
    }

    static void promise02SameOfOneAndTheSameMakesTwoOfEach() {
        Subject x = new Subject();
        x.input(3);
        x.same(0, 0);
        Checks.due("counts", x.counts(), "[2, 4, 2, 1, 0, 0]");
        Checks.due("0, i, 1 - r", x.row(0, 0, 4) + x.row(0, 1, 4) + x.row(0, 2, 4),
                "[0, 0, 0, 0][0, 0, 1, 0][1, 0, 0, 96]");
        Checks.due("0, r, 0", x.row(1, 0, 4) + x.row(1, 1, 4) + x.row(1, 2, 4),
                "[0, 0, 0, 0][0, 0, 0, 1][0, 0, 0, 0]");
    }

    // "What a kind has no use for may be anything."

    /** The sum itself is seen in the claim's coefficients and in the value. */
    private static Answers answersBehind(int kind, int a, int b, int c) {
        return Answers.of(State.UNSOLVED.and("and one expression more, claimed and solved", x -> {
            x.bit(x.expression(kind, a, b, c));
            x.solve();
        }));
    }

    private static void madeAlike(Answers want, int kind, int a, int b, int c) {
        Checks.due("what expression " + kind + " " + a + " " + b + " " + c + " is",
                want.partsFrom(answersBehind(kind, a, b, c)), "nowhere");
    }

    static void promise02NumberHasNoUseForBAndC() {
        Answers want = answersBehind(Checks.NUMBER, 5, 0, 0);
        for (int any : ANYTHING) {
            madeAlike(want, Checks.NUMBER, 5, any, 0);
            madeAlike(want, Checks.NUMBER, 5, 0, any);
            madeAlike(want, Checks.NUMBER, 5, any, any);
        }
    }

    static void promise02InputHasNoUseForAAndBAndC() {
        Answers want = answersBehind(Checks.INPUT, 0, 0, 0);
        for (int any : ANYTHING) {
            madeAlike(want, Checks.INPUT, any, 0, 0);
            madeAlike(want, Checks.INPUT, 0, any, 0);
            madeAlike(want, Checks.INPUT, 0, 0, any);
            madeAlike(want, Checks.INPUT, any, any, any);
        }
    }

    static void promise02Kinds2To6HaveNoUseForC() {
        for (int kind = Checks.PLUS; kind <= Checks.SAME; kind++) {
            Answers want = answersBehind(kind, 0, 1, 0);
            for (int any : ANYTHING) {
                madeAlike(want, kind, 0, 1, any);
            }
        }
    }

    static void promise02NotHasNoUseForBAndC() {
        Answers want = answersBehind(Checks.NOT, 1, 0, 0);
        for (int any : ANYTHING) {
            madeAlike(want, Checks.NOT, 1, any, 0);
            madeAlike(want, Checks.NOT, 1, 0, any);
            madeAlike(want, Checks.NOT, 1, any, any);
        }
    }

    static void promise02PowerHasNoUseForC() {
        for (int b = 1; b <= 5; b++) {
            Answers want = answersBehind(Checks.POWER, 0, b, 0);
            for (int any : ANYTHING) {
                madeAlike(want, Checks.POWER, 0, b, any);
            }
        }
    }

    static void promise02WhatHasNoUseMayBeAnythingInAnEmptyObject() {
        for (int any : ANYTHING) {
            Cases.due(State.EMPTY, 0, "expression", Checks.NUMBER, 5, any, any);
            Cases.due(State.EMPTY, 0, "expression", Checks.INPUT, any, any, any);
        }
    }

    // "EXPRESSIONS are numbered as they are made, at most 60"

    static void promise02Expression59IsTheLast() {
        Subject x = new Subject();
        for (int i = 0; i < 60; i++) {
            Checks.due("expression", x.number(i), i);
        }
        Checks.due("the next", x.answer("expression", Checks.NUMBER, 0, 0, 0), STATE);
        Checks.due("expressions", x.count(0), 60);
    }

    static void promise02EveryKindIsRefusedBehind60Expressions() {
        for (int kind = Checks.NUMBER; kind <= Checks.POWER; kind++) {
            Cases.refused(State.left(0, 5, 5), STATE, "expression", kind, 0, 1, 1);
            Cases.refused(State.FULL_AND_SOLVED, STATE, "expression", kind, 0, 1, 1);
        }
    }

    // "variable 0 is the ONE, always there, at most 59 others"

    static void promise02Variable59IsTheLast() {
        Subject x = new Subject();
        for (int i = 0; i < 59; i++) {
            Checks.due("input", x.expression(Checks.INPUT, 0, 0, 0), i);
        }
        Checks.due("variables", x.count(1), 60);
        Checks.due("the next", x.answer("expression", Checks.INPUT, 0, 0, 0), STATE);
        Checks.due("a number instead", x.number(0), 59);
    }

    // "CONSTRAINTS are numbered as they are made, at most 80"

    static void promise02Constraint79IsTheLast() {
        Subject x = State.left(3, 3, 2).make();
        x.times(0, 1);
        x.times(0, 1);
        Checks.due("constraints", x.count(2), 80);
        Checks.due("C of the last", x.coefficient(79, 2, 58), 1);
        Checks.due("the next", x.answer("expression", Checks.TIMES, 0, 1, 0), STATE);
        Checks.due("constraints", x.count(2), 80);
    }

    // "there is no room for it, or for a variable or constraint that it needs": just what is needed
    // must do, and with one less of anything it is refused as a whole.

    private static void fits(int variables, int constraints, int kind, int a, int b, int c) {
        Subject x = State.left(1, variables, constraints).make();
        Checks.due("kind " + kind + " with just what it needs", x.answer("expression", kind, a, b, c), 59);
        Checks.due("all is full", x.count(0) + " " + x.count(1) + " " + x.count(2), "60 60 80");
    }

    private static void refusedWith(
            int expressions, int variables, int constraints, int kind, int a, int b) {
        State state = State.left(expressions, variables, constraints);
        Cases.refused(state, STATE, "expression", kind, a, b, kind == Checks.EITHER ? 1 : 0);
    }

    static void promise02NumberNeedsAnExpressionAlone() {
        fits(0, 0, Checks.NUMBER, 5, 0, 0);
        refusedWith(0, 1, 1, Checks.NUMBER, 5, 0);
    }

    static void promise02PlusNeedsAnExpressionAlone() {
        fits(0, 0, Checks.PLUS, 0, 1, 0);
        refusedWith(0, 1, 1, Checks.PLUS, 0, 1);
    }

    static void promise02MinusNeedsAnExpressionAlone() {
        fits(0, 0, Checks.MINUS, 0, 1, 0);
        refusedWith(0, 1, 1, Checks.MINUS, 0, 1);
    }

    static void promise02NotNeedsAnExpressionAlone() {
        fits(0, 0, Checks.NOT, 0, 0, 0);
        refusedWith(0, 1, 1, Checks.NOT, 0, 0);
    }

    static void promise02TimesWithAConstantNeedsAnExpressionAlone() {
        fits(0, 0, Checks.TIMES, 2, 0, 0);
        refusedWith(0, 1, 1, Checks.TIMES, 2, 0);
    }

    static void promise02TimesWithBConstantNeedsAnExpressionAlone() {
        fits(0, 0, Checks.TIMES, 0, 2, 0);
        refusedWith(0, 1, 1, Checks.TIMES, 0, 2);
    }

    static void promise02EitherWithCConstantNeedsAnExpressionAlone() {
        fits(0, 0, Checks.EITHER, 0, 1, 2);
    }

    static void promise02EitherWithAConstantDifferenceNeedsAnExpressionAlone() {
        fits(0, 0, Checks.EITHER, 1, 1, 0);
    }

    static void promise02Power1NeedsAnExpressionAlone() {
        fits(0, 0, Checks.POWER, 0, 1, 0);
        refusedWith(0, 1, 1, Checks.POWER, 0, 1);
    }

    static void promise02PowerOfAConstantNeedsAnExpressionAlone() {
        fits(0, 0, Checks.POWER, 2, 5, 0);
        refusedWith(0, 4, 4, Checks.POWER, 2, 5);
    }

    static void promise02InputFitsWithOneVariable() {
        fits(1, 0, Checks.INPUT, 0, 0, 0);
    }

    static void promise02InputIsRefusedWithoutAnExpression() {
        refusedWith(0, 1, 0, Checks.INPUT, 0, 0);
    }

    static void promise02InputIsRefusedWithoutAVariable() {
        refusedWith(1, 0, 1, Checks.INPUT, 0, 0);
    }

    static void promise02TimesFitsWithOneOfEach() {
        fits(1, 1, Checks.TIMES, 0, 1, 0);
    }

    static void promise02TimesIsRefusedWithoutAnExpression() {
        refusedWith(0, 1, 1, Checks.TIMES, 0, 1);
    }

    static void promise02TimesIsRefusedWithoutAVariable() {
        refusedWith(1, 0, 1, Checks.TIMES, 0, 1);
    }

    static void promise02TimesIsRefusedWithoutAConstraint() {
        refusedWith(1, 1, 0, Checks.TIMES, 0, 1);
    }

    static void promise02ShareFitsWithTwoOfEach() {
        fits(2, 2, Checks.SHARE, 0, 1, 0);
        fits(2, 2, Checks.SHARE, 2, 2, 0);
    }

    static void promise02ShareIsRefusedWithoutAnExpression() {
        refusedWith(0, 2, 2, Checks.SHARE, 0, 1);
    }

    static void promise02ShareIsRefusedWithoutAVariable() {
        refusedWith(1, 0, 2, Checks.SHARE, 0, 1);
    }

    static void promise02ShareIsRefusedWithOneVariable() {
        refusedWith(1, 1, 2, Checks.SHARE, 0, 1);
        refusedWith(1, 1, 2, Checks.SHARE, 2, 2);
    }

    static void promise02ShareIsRefusedWithoutAConstraint() {
        refusedWith(1, 2, 0, Checks.SHARE, 0, 1);
    }

    static void promise02ShareIsRefusedWithOneConstraint() {
        refusedWith(1, 2, 1, Checks.SHARE, 0, 1);
        refusedWith(1, 2, 1, Checks.SHARE, 2, 2);
    }

    static void promise02SameFitsWithTwoOfEach() {
        fits(2, 2, Checks.SAME, 0, 1, 0);
        fits(2, 2, Checks.SAME, 2, 2, 0);
    }

    static void promise02SameIsRefusedWithoutAnExpression() {
        refusedWith(0, 2, 2, Checks.SAME, 0, 1);
    }

    static void promise02SameIsRefusedWithoutAVariable() {
        refusedWith(1, 0, 2, Checks.SAME, 0, 1);
    }

    static void promise02SameIsRefusedWithOneVariable() {
        refusedWith(1, 1, 2, Checks.SAME, 0, 1);
        refusedWith(1, 1, 2, Checks.SAME, 2, 2);
    }

    static void promise02SameIsRefusedWithoutAConstraint() {
        refusedWith(1, 2, 0, Checks.SAME, 0, 1);
    }

    static void promise02SameIsRefusedWithOneConstraint() {
        refusedWith(1, 2, 1, Checks.SAME, 0, 1);
        refusedWith(1, 2, 1, Checks.SAME, 2, 2);
    }

    static void promise02EitherFitsWithOneOfEach() {
        fits(1, 1, Checks.EITHER, 0, 1, 1);
    }

    static void promise02EitherIsRefusedWithoutAnExpression() {
        refusedWith(0, 1, 1, Checks.EITHER, 0, 1);
    }

    static void promise02EitherIsRefusedWithoutAVariable() {
        refusedWith(1, 0, 1, Checks.EITHER, 0, 1);
    }

    static void promise02EitherIsRefusedWithoutAConstraint() {
        refusedWith(1, 1, 0, Checks.EITHER, 0, 1);
    }

    static void promise02PowerFitsWithOneOfEachLessThanB() {
        for (int b = 2; b <= 5; b++) {
            fits(b - 1, b - 1, Checks.POWER, 0, b, 0);
        }
    }

    static void promise02PowerIsRefusedWithoutAnExpression() {
        for (int b = 2; b <= 5; b++) {
            refusedWith(0, b - 1, b - 1, Checks.POWER, 0, b);
        }
    }

    static void promise02PowerIsRefusedWithTooFewVariables() {
        for (int b = 2; b <= 5; b++) {
            for (int variables = 0; variables < b - 1; variables++) {
                refusedWith(1, variables, b - 1, Checks.POWER, 0, b);
            }
        }
    }

    static void promise02PowerIsRefusedWithTooFewConstraints() {
        for (int b = 2; b <= 5; b++) {
            for (int constraints = 0; constraints < b - 1; constraints++) {
                refusedWith(1, b - 1, constraints, Checks.POWER, 0, b);
            }
        }
    }

    static void promise02WhatFitsIsMadeBehindARefusal() {
        Subject x = State.left(2, 1, 1).make();
        Checks.due("share", x.answer("expression", Checks.SHARE, 0, 1, 0), STATE);
        Checks.due("power 3", x.answer("expression", Checks.POWER, 0, 3, 0), STATE);
        Checks.due("times", x.answer("expression", Checks.TIMES, 0, 1, 0), 58);
        Checks.due("C of its constraint", x.coefficient(79, 2, 59), 1);
        x.solve();
        Checks.due("3 times 4", x.tamper(59, 0), 12);
    }

    // "What is thrown is told in the order of testing": a wrong argument is told even where there is no room.

    static void promise02WrongKindGoesBeforeNoRoom() {
        Cases.refused(State.FULL_AND_SOLVED, ARGUMENT, "expression", -1, 0, 1, 0);
        Cases.refused(State.FULL_AND_SOLVED, ARGUMENT, "expression", 10, 0, 1, 0);
    }

    static void promise02MissingAGoesBeforeNoRoom() {
        for (int kind = Checks.PLUS; kind <= Checks.POWER; kind++) {
            Cases.refused(State.FULL_AND_SOLVED, ARGUMENT, "expression", kind, 60, 1, 1);
            Cases.refused(State.left(1, 0, 0), ARGUMENT, "expression", kind, 59, 1, 1);
        }
    }

    static void promise02MissingBGoesBeforeNoRoom() {
        for (int kind = Checks.PLUS; kind <= Checks.EITHER; kind++) {
            Cases.refused(State.FULL_AND_SOLVED, ARGUMENT, "expression", kind, 1, 60, 1);
            Cases.refused(State.left(1, 0, 0), ARGUMENT, "expression", kind, 1, 59, 1);
        }
    }

    static void promise02MissingCGoesBeforeNoRoom() {
        Cases.refused(State.FULL_AND_SOLVED, ARGUMENT, "expression", Checks.EITHER, 1, 0, 60);
        Cases.refused(State.left(1, 0, 0), ARGUMENT, "expression", Checks.EITHER, 1, 0, 59);
    }

    static void promise02WrongPowerGoesBeforeNoRoom() {
        Cases.refused(State.FULL_AND_SOLVED, ARGUMENT, "expression", Checks.POWER, 0, 0, 0);
        Cases.refused(State.FULL_AND_SOLVED, ARGUMENT, "expression", Checks.POWER, 0, 6, 0);
        Cases.refused(State.left(1, 0, 0), ARGUMENT, "expression", Checks.POWER, 0, 6, 0);
    }

    // "at most 512 calls"

    static void promise02Call512IsAnswered() {
        for (int kind = Checks.NUMBER; kind <= Checks.POWER; kind++) {
            Cases.dueAsLastCall(State.UNSOLVED, 11, "expression", kind, 0, 1, 0);
        }
        Cases.dueAsLastCall(State.FULL_AND_SOLVED, STATE, "expression", Checks.NUMBER, 0, 0, 0);
        Cases.dueAsLastCall(State.FULL_AND_SOLVED, ARGUMENT, "expression", 10, 0, 0, 0);
    }

    static void promise02All512CallsMayBeExpressions() {
        Subject x = new Subject();
        for (int call = 0; call < 512; call++) {
            Object got = x.answer("expression", Checks.NUMBER, call, 0, 0);
            Checks.due("call " + (call + 1), got, call < 60 ? call : STATE);
        }
    }

    static void promise02All512CallsMayBeRefused() {
        Cases.refused512Times(ARGUMENT, "expression", Checks.NOT, 0, 0, 0);
    }
}
