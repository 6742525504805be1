import com.sun.management.ThreadMXBean;
import java.lang.management.ManagementFactory;

/** Guards the room of a run: an object and its dearest 512 calls must take little of it. */
public final class RoomTest {
    private static final int CALLS = 512;
    private static final long MOST_BYTES = 2_000_000;
    private static final ThreadMXBean THREADS = (ThreadMXBean) ManagementFactory.getThreadMXBean();

    private static int wrong;

    private RoomTest() {
    }

    private static void measure(String what, Runnable call) {
        long before = THREADS.getCurrentThreadAllocatedBytes();
        call.run();
        long taken = THREADS.getCurrentThreadAllocatedBytes() - before;
        if (taken > MOST_BYTES) {
            wrong++;
            System.out.println(what + " took " + taken + " bytes, " + MOST_BYTES + " at most are due");
        }
    }

    /** Makes a game whose frames all begin many sounds, with 120 frames run. */
    private static Lagless longGame() {
        Lagless x = new Lagless();
        x.addInstruction(0, '=', 1, 7);
        x.addInstruction(0, 'i', 2, 0);
        x.addInstruction(0, '+', 0, 1);
        x.addInstruction(0, 's', 0, 0);
        x.addInstruction(0, 'j', 2, 0);
        x.begin(3, 0, 10, 1);
        x.leave(1);
        x.leave(2);
        for (int n = 0; n < 120; n++) {
            x.press(0, n % 16);
            x.advance(0);
        }
        return x;
    }

    public static void main(String[] args) {
        Lagless x = longGame();
        measure("an object", Lagless::new);
        measure("a long game", RoomTest::longGame);
        measure("many calls of isSound, again, fork and wholly", () -> {
            for (int n = 0; n < CALLS; n++) {
                x.isSound();
                x.again(0);
                x.fork(0, 0, 119, 7);
                x.wholly(120);
                x.differs(0, 0);
                x.cut(0);
            }
        });
        measure("many games", () -> {
            for (int n = 0; n < CALLS; n++) {
                x.begin(3, 4, 10, n);
            }
        });
        measure("many packets, each with going back", () -> {
            for (int n = 0; n < 100; n++) {
                x.press(0, n % 15 + 1);
                x.advance(0);
                x.advance(1);
                x.deliver(x.send(0, 1));
                x.deliver(x.send(1, 0));
            }
        });
        if (wrong > 0) {
            System.exit(1);
        }
        System.out.println("all takes little room");
    }
}
