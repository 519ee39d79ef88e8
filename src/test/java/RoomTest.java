import com.sun.management.ThreadMXBean;
import java.lang.management.ManagementFactory;

/** A run of 512 calls, whatever they are, must stay far inside the room that all its objects share. */
public final class RoomTest {
    private static final int CALLS = 512;
    /** No object is smaller than 16 bytes and no int smaller than 4: under 600,000 and 7.3 million. */
    private static final long ROOM = 9_000_000;

    private static final ThreadMXBean THREADS = (ThreadMXBean) ManagementFactory.getThreadMXBean();

    public static void main(String[] args) {
        objects();
        fullObjects();
        refusals();
        solving();
        Checks.end();
    }

    private static void within(String what, Runnable run) {
        run.run();
        long before = THREADS.getCurrentThreadAllocatedBytes();
        run.run();
        long used = THREADS.getCurrentThreadAllocatedBytes() - before;
        Checks.due(what + " takes " + used + " bytes; within the room", used < ROOM, true);
    }

    private static void objects() {
        ConstraintCompiler[] kept = new ConstraintCompiler[CALLS];
        within("making objects", () -> {
            for (int i = 0; i < CALLS; i++) {
                kept[i] = new ConstraintCompiler();
            }
        });
    }

    private static void fullObjects() {
        within("full objects", () -> {
            for (int i = 0; i < 4; i++) {
                fill();
            }
        });
    }

    private static ConstraintCompiler fill() {
        ConstraintCompiler x = Checks.withInputs(1);
        while (x.count(1) <= 57) {
            x.expression(Checks.SAME, 0, 0, 0);
        }
        while (x.count(0) < 60) {
            x.expression(Checks.PLUS, 0, 1, 0);
        }
        while (x.count(2) < 80) {
            x.claim(Checks.BIT, 0, 0);
        }
        return x;
    }

    private static void refusals() {
        ConstraintCompiler x = fill();
        within("refused expressions", () -> {
            for (int i = 0; i < CALLS; i++) {
                try {
                    x.expression(Checks.EITHER, 0, 1, 2);
                } catch (IllegalStateException e) {
                    continue;
                }
                throw new AssertionError("there was room");
            }
        });
    }

    private static void solving() {
        ConstraintCompiler x = fill();
        within("solving", () -> {
            for (int i = 0; i < CALLS; i++) {
                x.solve();
                x.broken();
                x.value(59);
                x.uses(0);
            }
        });
    }
}
