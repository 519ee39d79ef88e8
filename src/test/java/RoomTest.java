import com.sun.management.ThreadMXBean;
import java.lang.management.ManagementFactory;

/** A run of 512 calls, whatever they are, must stay far inside the room that all its objects share. */
public final class RoomTest {
    private static final int CALLS = 512;
    /** No object is smaller than 16 bytes and no int smaller than 4: under 600,000 and 7.3 million. */
    private static final long ROOM = 9_000_000;

    private static final ThreadMXBean THREADS = (ThreadMXBean) ManagementFactory.getThreadMXBean();

    public static void main(String[] args) {
        objects();
        fullObjects();
        refusals();
        solving();
        Checks.end();
    }

    private static void within(String what, Runnable run) {
        run.run();
        long before = THREADS.getCurrentThreadAllocatedBytes();
        run.run();
        long used = THREADS.getCurrentThreadAllocatedBytes() - before;
        Checks.due(what + " takes " + used + " bytes; within the room", used < ROOM, true);
    }

    private static void objects() {
        ConstraintCompiler[] kept = new ConstraintCompiler[CALLS];
        within("making objects", () -> {
            for (int i = 0; i < CALLS; i++) {
                kept[i] = new ConstraintCompiler();
            }
        });
    }

    private static void fullObjects() {
        within("full objects", () -> {
            for (int i = 0; i < 4; i++) {
                State.FULL.make();
            }
        });
    }

    private static void refusals() {
        within("refused expressions", () -> {
            Subject x = State.FULL.make();
            while (x.callsLeft() > 0) {
                x.answer("expression", Checks.EITHER, 0, 1, 2);
            }
        });
    }

    private static void solving() {
        within("solving", () -> {
            Subject x = State.FULL.make();
            while (x.callsLeft() >= 4) {
                x.solve();
                x.broken();
                x.value(59);
                x.uses(0);
            }
        });
    }
}
