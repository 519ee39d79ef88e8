import java.util.NoSuchElementException;

public final class Promise09FirstTest {
    public static void main(String[] args) {
        theLeastOfThem();
        constraintsMadeLaterDoNotCount();
        needsAWitness();
        Checks.end();
    }

    private static void theLeastOfThem() {
        Subject x = Checks.withInputs(1, 1, 1);
        for (int i = 0; i < 3; i++) {
            x.claim(Checks.BIT, i, 0);
        }
        x.solve();
        Checks.refusedWhole("all hold", x, NoSuchElementException.class, x::first);
        x.tamper(3, 5);
        Checks.due("the last", x.first(), 2);
        x.tamper(2, 5);
        Checks.due("the middle one", x.first(), 1);
        x.tamper(1, 5);
        Checks.due("the first", x.first(), 0);
        Checks.due("broken", x.broken(), 3);
        x.tamper(1, 0);
        Checks.due("the middle one again", x.first(), 1);
    }

    private static void constraintsMadeLaterDoNotCount() {
        Subject x = Checks.withInputs(6);
        x.solve();
        x.claim(Checks.BIT, 0, 0);
        Checks.refused("the only one is new", NoSuchElementException.class, x::first);
        x.solve();
        Checks.due("first", x.first(), 0);
    }

    private static void needsAWitness() {
        Subject x = Checks.withInputs(6);
        Checks.refusedWhole("first", x, IllegalStateException.class, x::first);
        x.claim(Checks.BIT, 0, 0);
        Checks.refusedWhole("first", x, IllegalStateException.class, x::first);
    }
}
