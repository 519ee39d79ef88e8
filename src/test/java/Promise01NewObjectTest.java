import java.util.NoSuchElementException;

public final class Promise01NewObjectTest {
    public static void main(String[] args) {
        Subject x = new Subject();
        Checks.due("counts of a new object", x.counts(), "[0, 1, 0, 0, 0, 0]");
        Checks.due("uses of the one", x.uses(0), 0);
        Checks.due("uses of a variable not made", x.uses(59), 0);
        Checks.refused("value", NoSuchElementException.class, () -> x.value(0));
        Checks.refused("terms", NoSuchElementException.class, () -> x.terms(0));
        Checks.refused("give", NoSuchElementException.class, () -> x.give(0, 0));
        Checks.refused("coefficient", NoSuchElementException.class, () -> x.coefficient(0, 0, 0));
        Checks.refused("tamper", IllegalStateException.class, () -> x.tamper(1, 0));
        Checks.refused("broken", IllegalStateException.class, x::broken);
        Checks.refused("first", IllegalStateException.class, x::first);
        Checks.refused("claim", IllegalArgumentException.class, () -> x.claim(Checks.BIT, 0, 0));
        solvesWithoutAnything();
        objectsAreApart();
        Checks.end();
    }

    private static void solvesWithoutAnything() {
        Subject x = new Subject();
        Checks.due("solve of nothing", x.solve(), 0);
        Checks.due("counts behind it", x.counts(), "[0, 1, 0, 0, 1, 1]");
    }

    private static void objectsAreApart() {
        Subject x = Checks.withInputs(3);
        x.claim(Checks.BIT, 0, 0);
        x.solve();
        Checks.due("counts of another object",
                new Subject().counts(), "[0, 1, 0, 0, 0, 0]");
    }
}
