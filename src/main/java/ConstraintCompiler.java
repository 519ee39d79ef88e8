import java.util.ArrayList;
import java.util.NoSuchElementException;

/**
 * A compiler of small programs to systems of constraints of rank 1 over the field of the numbers
 * 0 .. 96, with a witness that is worked out for inputs and can be changed and checked.
 */
public final class ConstraintCompiler {
    private static final int MODULUS = 97;
    private static final int MINUS_ONE = MODULUS - 1;

    private static final int VARIABLE_LIMIT = 60;
    private static final int EXPRESSION_LIMIT = 60;
    private static final int CONSTRAINT_LIMIT = 80;
    private static final int POWER_LIMIT = 5;

    private static final int NUMBER = 0;
    private static final int INPUT = 1;
    private static final int PLUS = 2;
    private static final int MINUS = 3;
    private static final int TIMES = 4;
    private static final int SHARE = 5;
    private static final int SAME = 6;
    private static final int EITHER = 7;
    private static final int NOT = 8;
    private static final int POWER = 9;

    private static final int EQUAL = 0;
    private static final int BIT = 1;

    private static final int IS_ONE = 0;
    private static final int IS_GIVEN = 1;
    private static final int IS_PRODUCT = 2;
    private static final int IS_INVERSE = 3;
    private static final int IS_INVERSE_OR_ZERO = 4;
    private static final int IS_ZERO_TEST = 5;

    /** Stands outside the field, so that no number of a variable can be taken for it. */
    private static final int FAILURE = -1;

    private final Sum zero;
    private final Sum one;
    private final ArrayList<Variable> variables;
    private final ArrayList<Expression> expressions;
    private final ArrayList<Constraint> constraints;
    private int inputs;

    /** Two rows that change places, so that a failure in solving leaves the witness as it was. */
    private int[] witness;
    private int[] draft;
    /** 0 without a witness: one that is there has variable 0 at least. */
    private int witnessVariables;
    private int witnessConstraints;

    public ConstraintCompiler() {
        zero = new Sum();
        one = Sum.ofVariable(0);
        variables = new ArrayList<>();
        expressions = new ArrayList<>();
        constraints = new ArrayList<>();
        witness = new int[VARIABLE_LIMIT];
        draft = new int[VARIABLE_LIMIT];
        variables.add(new Variable(IS_ONE, zero, zero));
    }

    public int expression(int kind, int a, int b, int c)
            throws IllegalArgumentException, IllegalStateException {
        if (!isWellFormed(kind, a, b, c)) {
            throw new IllegalArgumentException();
        }
        if (!hasRoomFor(kind, a, b, c)) {
            throw new IllegalStateException();
        }
        expressions.add(kind == INPUT ? makeInput() : new Expression(makeSum(kind, a, b, c), 0));
        return expressions.size() - 1;
    }

    public int claim(int kind, int a, int b)
            throws IllegalArgumentException, IllegalStateException {
        if (kind != EQUAL && kind != BIT || !isMade(a) || kind == EQUAL && !isMade(b)) {
            throw new IllegalArgumentException();
        }
        if (constraints.size() >= CONSTRAINT_LIMIT) {
            throw new IllegalStateException();
        }
        if (kind == EQUAL) {
            addConstraint(difference(a, b), one, zero);
        } else {
            addConstraint(sumOf(a), one.minus(sumOf(a)), zero);
        }
        return constraints.size() - 1;
    }

    public int give(int expression, int value)
            throws NoSuchElementException, UnsupportedOperationException {
        if (!isMade(expression)) {
            throw new NoSuchElementException();
        }
        Expression named = expressions.get(expression);
        if (!named.isInput()) {
            throw new UnsupportedOperationException();
        }
        Variable input = variables.get(named.input);
        int before = input.given;
        input.given = remainder(value);
        return before;
    }

    public int solve() throws ArithmeticException {
        if (!fillDraft()) {
            throw new ArithmeticException();
        }
        int[] old = witness;
        witness = draft;
        draft = old;
        witnessVariables = variables.size();
        witnessConstraints = constraints.size();
        return howManyBroken();
    }

    public int value(int expression) throws NoSuchElementException, IllegalStateException {
        if (!isMade(expression)) {
            throw new NoSuchElementException();
        }
        Sum sum = sumOf(expression);
        if (!hasWitness() || sum.lastVariable() >= witnessVariables) {
            throw new IllegalStateException();
        }
        return sum.valueFor(witness);
    }

    public int tamper(int variable, int value)
            throws IllegalStateException, IllegalArgumentException {
        if (!hasWitness()) {
            throw new IllegalStateException();
        }
        if (variable < 1 || variable >= witnessVariables) {
            throw new IllegalArgumentException();
        }
        int before = witness[variable];
        witness[variable] = remainder(value);
        return before;
    }

    public int broken() throws IllegalStateException {
        if (!hasWitness()) {
            throw new IllegalStateException();
        }
        return howManyBroken();
    }

    public int first() throws IllegalStateException, NoSuchElementException {
        if (!hasWitness()) {
            throw new IllegalStateException();
        }
        for (int i = 0; i < witnessConstraints; i++) {
            if (!constraints.get(i).holdsFor(witness)) {
                return i;
            }
        }
        throw new NoSuchElementException();
    }

    public int coefficient(int constraint, int sum, int variable)
            throws NoSuchElementException, IllegalArgumentException {
        if (constraint < 0 || constraint >= constraints.size()) {
            throw new NoSuchElementException();
        }
        if (sum < 0 || sum > 2 || !isVariableNumber(variable)) {
            throw new IllegalArgumentException();
        }
        return constraints.get(constraint).sumAt(sum).coefficients[variable];
    }

    public int terms(int expression) throws NoSuchElementException {
        if (!isMade(expression)) {
            throw new NoSuchElementException();
        }
        return sumOf(expression).howManyTerms();
    }

    public int uses(int variable) throws IllegalArgumentException {
        if (!isVariableNumber(variable)) {
            throw new IllegalArgumentException();
        }
        int found = 0;
        for (int i = 0; i < constraints.size(); i++) {
            if (constraints.get(i).hasVariable(variable)) {
                found++;
            }
        }
        return found;
    }

    public int count(int what) throws IllegalArgumentException {
        switch (what) {
            case 0:
                return expressions.size();
            case 1:
                return variables.size();
            case 2:
                return constraints.size();
            case 3:
                return inputs;
            case 4:
                return hasWitness() ? 1 : 0;
            case 5:
                return witnessVariables;
            default:
                throw new IllegalArgumentException();
        }
    }

    private static int remainder(int number) {
        return Math.floorMod(number, MODULUS);
    }

    /** Answers 0 for 0, which has no inverse: just what the variable i of a SAME needs. */
    private static int inverseOrZero(int number) {
        for (int candidate = 1; candidate < MODULUS; candidate++) {
            if (number * candidate % MODULUS == 1) {
                return candidate;
            }
        }
        return 0;
    }

    private static boolean isVariableNumber(int variable) {
        return variable >= 0 && variable < VARIABLE_LIMIT;
    }

    private boolean isMade(int expression) {
        return expression >= 0 && expression < expressions.size();
    }

    private boolean hasWitness() {
        return witnessVariables > 0;
    }

    private boolean isWellFormed(int kind, int a, int b, int c) {
        if (kind < NUMBER || kind > POWER) {
            return false;
        }
        if (kind >= PLUS && !isMade(a)) {
            return false;
        }
        if (kind >= PLUS && kind <= EITHER && !isMade(b)) {
            return false;
        }
        if (kind == EITHER && !isMade(c)) {
            return false;
        }
        return kind != POWER || b >= 1 && b <= POWER_LIMIT;
    }

    /** Everything is counted before anything is made, so that a refusal leaves nothing behind. */
    private boolean hasRoomFor(int kind, int a, int b, int c) {
        int newConstraints = constraintsNeeded(kind, a, b, c);
        int newVariables = kind == INPUT ? 1 : newConstraints;
        return expressions.size() < EXPRESSION_LIMIT
                && variables.size() + newVariables <= VARIABLE_LIMIT
                && constraints.size() + newConstraints <= CONSTRAINT_LIMIT;
    }

    /** Every constraint of an expression comes with one variable of its own. */
    private int constraintsNeeded(int kind, int a, int b, int c) {
        switch (kind) {
            case TIMES:
                return constraintsOfProduct(sumOf(a), sumOf(b));
            case SHARE:
            case SAME:
                return 2;
            case EITHER:
                return constraintsOfProduct(sumOf(c), difference(a, b));
            case POWER:
                return (b - 1) * constraintsOfProduct(sumOf(a), sumOf(a));
            default:
                return 0;
        }
    }

    private static int constraintsOfProduct(Sum left, Sum right) {
        return left.isConstant() || right.isConstant() ? 0 : 1;
    }

    private Sum sumOf(int expression) {
        return expressions.get(expression).sum;
    }

    private Sum difference(int a, int b) {
        return sumOf(a).minus(sumOf(b));
    }

    private Expression makeInput() {
        int variable = addVariable(IS_GIVEN, zero, zero);
        inputs++;
        return new Expression(Sum.ofVariable(variable), variable);
    }

    private Sum makeSum(int kind, int a, int b, int c) {
        switch (kind) {
            case PLUS:
                return sumOf(a).plus(sumOf(b));
            case MINUS:
                return difference(a, b);
            case TIMES:
                return makeProduct(sumOf(a), sumOf(b));
            case SHARE:
                return makeShare(sumOf(a), sumOf(b));
            case SAME:
                return makeSame(difference(a, b));
            case EITHER:
                return makeProduct(sumOf(c), difference(a, b)).plus(sumOf(b));
            case NOT:
                return one.minus(sumOf(a));
            case POWER:
                return makePower(sumOf(a), b);
            default:
                return one.scaledBy(remainder(a));
        }
    }

    private Sum makeProduct(Sum left, Sum right) {
        if (left.isConstant()) {
            return right.scaledBy(left.coefficients[0]);
        }
        if (right.isConstant()) {
            return left.scaledBy(right.coefficients[0]);
        }
        return makeConstrainedProduct(left, right);
    }

    private Sum makeConstrainedProduct(Sum left, Sum right) {
        Sum product = Sum.ofVariable(addVariable(IS_PRODUCT, left, right));
        addConstraint(left, right, product);
        return product;
    }

    /** The second constraint stands even where a is constant: a SHARE is not as for 4. */
    private Sum makeShare(Sum dividend, Sum divisor) {
        Sum inverse = Sum.ofVariable(addVariable(IS_INVERSE, divisor, zero));
        addConstraint(divisor, inverse, one);
        return makeConstrainedProduct(dividend, inverse);
    }

    private Sum makeSame(Sum difference) {
        Sum inverse = Sum.ofVariable(addVariable(IS_INVERSE_OR_ZERO, difference, zero));
        Sum result = Sum.ofVariable(addVariable(IS_ZERO_TEST, difference, zero));
        addConstraint(difference, inverse, one.minus(result));
        addConstraint(difference, result, zero);
        return result;
    }

    private Sum makePower(Sum base, int exponent) {
        Sum power = base;
        for (int i = 1; i < exponent; i++) {
            power = makeProduct(power, base);
        }
        return power;
    }

    private int addVariable(int rule, Sum left, Sum right) {
        variables.add(new Variable(rule, left, right));
        return variables.size() - 1;
    }

    private void addConstraint(Sum a, Sum b, Sum c) {
        constraints.add(new Constraint(a, b, c));
    }

    private boolean fillDraft() {
        for (int i = 0; i < variables.size(); i++) {
            int number = variables.get(i).numberFor(draft);
            if (number == FAILURE) {
                return false;
            }
            draft[i] = number;
        }
        return true;
    }

    private int howManyBroken() {
        int found = 0;
        for (int i = 0; i < witnessConstraints; i++) {
            if (!constraints.get(i).holdsFor(witness)) {
                found++;
            }
        }
        return found;
    }

    /** Never changed once it is handed out, so expressions, constraints and variables share it. */
    private static final class Sum {
        final int[] coefficients;

        Sum() {
            coefficients = new int[VARIABLE_LIMIT];
        }

        static Sum ofVariable(int variable) {
            Sum sum = new Sum();
            sum.coefficients[variable] = 1;
            return sum;
        }

        Sum plus(Sum other) {
            return combinedWith(other, 1, 1);
        }

        Sum minus(Sum other) {
            return combinedWith(other, 1, MINUS_ONE);
        }

        Sum scaledBy(int factor) {
            return combinedWith(this, factor, 0);
        }

        private Sum combinedWith(Sum other, int factor, int otherFactor) {
            Sum sum = new Sum();
            for (int i = 0; i < VARIABLE_LIMIT; i++) {
                sum.coefficients[i] =
                        remainder(factor * coefficients[i] + otherFactor * other.coefficients[i]);
            }
            return sum;
        }

        /** 0 also for the sum without any term, which counts as constant with the value 0. */
        int lastVariable() {
            for (int i = VARIABLE_LIMIT - 1; i > 0; i--) {
                if (coefficients[i] != 0) {
                    return i;
                }
            }
            return 0;
        }

        boolean isConstant() {
            return lastVariable() == 0;
        }

        int howManyTerms() {
            int found = 0;
            for (int i = 0; i < VARIABLE_LIMIT; i++) {
                if (coefficients[i] != 0) {
                    found++;
                }
            }
            return found;
        }

        /** What a row holds behind the last variable of the sum is multiplied by 0. */
        int valueFor(int[] numbers) {
            int total = 0;
            for (int i = 0; i < VARIABLE_LIMIT; i++) {
                total += coefficients[i] * numbers[i];
            }
            return remainder(total);
        }
    }

    private static final class Expression {
        final Sum sum;
        /** Variable 0 is never an input, so 0 says that the expression is of another kind. */
        final int input;

        Expression(Sum sum, int input) {
            this.sum = sum;
            this.input = input;
        }

        boolean isInput() {
            return input != 0;
        }
    }

    private static final class Constraint {
        final Sum a;
        final Sum b;
        final Sum c;

        Constraint(Sum a, Sum b, Sum c) {
            this.a = a;
            this.b = b;
            this.c = c;
        }

        boolean holdsFor(int[] numbers) {
            return remainder(a.valueFor(numbers) * b.valueFor(numbers)) == c.valueFor(numbers);
        }

        Sum sumAt(int position) {
            switch (position) {
                case 0:
                    return a;
                case 1:
                    return b;
                default:
                    return c;
            }
        }

        boolean hasVariable(int variable) {
            return a.coefficients[variable] != 0
                    || b.coefficients[variable] != 0
                    || c.coefficients[variable] != 0;
        }
    }

    /** Knows by which rule, and from which sums of earlier variables, its number is worked out. */
    private static final class Variable {
        final int rule;
        final Sum left;
        final Sum right;
        int given;

        Variable(int rule, Sum left, Sum right) {
            this.rule = rule;
            this.left = left;
            this.right = right;
        }

        int numberFor(int[] numbers) {
            int leftValue = left.valueFor(numbers);
            switch (rule) {
                case IS_ONE:
                    return 1;
                case IS_GIVEN:
                    return given;
                case IS_PRODUCT:
                    return remainder(leftValue * right.valueFor(numbers));
                case IS_INVERSE:
                    return leftValue == 0 ? FAILURE : inverseOrZero(leftValue);
                case IS_INVERSE_OR_ZERO:
                    return inverseOrZero(leftValue);
                default:
                    return leftValue == 0 ? 1 : 0;
            }
        }
    }
}
