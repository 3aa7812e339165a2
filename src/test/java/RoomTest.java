import com.sun.management.ThreadMXBean;
import java.lang.management.ManagementFactory;

/** How much room an object and its 512 calls take: all runs live in one room, where nothing is given back. */
public final class RoomTest {
    private static final int CALLS = 511;
    /** Far below the room's 7.3 million elements of four bytes. */
    private static final long MOST_BYTES = 100000;
    private static final ThreadMXBean THREADS = (ThreadMXBean) ManagementFactory.getThreadMXBean();

    /** A call, with its number. */
    private interface Step {
        void call(GemPits x, int number);
    }

    public static void main(String[] args) {
        room("nothing", (x, i) -> { });
        room("feed and law", (x, i) -> feedThenLaw(x, i));
        room("feed and agreement", (x, i) -> feedThenAgreement(x, i));
        room("sink", (x, i) -> sinkAt(x, i));
        room("stone", (x, i) -> stoneOf(x, i));
        room("best", (x, i) -> x.best());
        room("step and count", (x, i) -> stepAndCount(x, i));
        room("flaw and most", (x, i) -> flawAndMost(x, i));
        Check.close();
    }

    private static void room(String what, Step step) {
        run(step);
        long before = THREADS.getCurrentThreadAllocatedBytes();
        run(step);
        long bytes = THREADS.getCurrentThreadAllocatedBytes() - before;
        if (bytes > MOST_BYTES) {
            Check.same("room of " + CALLS + " calls of " + what, bytes, MOST_BYTES);
        }
    }

    private static void run(Step step) {
        GemPits x = new GemPits();
        for (int i = 0; i < CALLS; i++) {
            step.call(x, i);
        }
    }

    private static void feedThenLaw(GemPits x, int i) {
        if (i % 2 == 0) {
            x.feed(0x61706172, 0x7420323b, 0x2066696c, 0x6c203330, 0x20202020);
        } else {
            x.law();
        }
    }

    private static void feedThenAgreement(GemPits x, int i) {
        if (i % 2 == 0) {
            x.feed(0x636f7374, 0x73206669, 0x7273743b, 0x206c616e, 0x64203130);
        } else {
            x.agreement();
        }
    }

    private static void sinkAt(GemPits x, int i) {
        if (i < 30) {
            x.sink(i);
        }
    }

    private static void stoneOf(GemPits x, int i) {
        if (i == 0) {
            x.sink(0);
        } else if (i == 1) {
            x.wash(0, 1);
        } else if (i < 62) {
            x.stone(0, i);
        }
    }

    private static void stepAndCount(GemPits x, int i) {
        x.step(i % 101);
        x.count(13 + i % 2);
    }

    private static void flawAndMost(GemPits x, int i) {
        if (i == 0) {
            x.rough(10, 8);
        } else if (i % 2 == 1) {
            x.flaw(i % 10, i % 8, true);
        } else {
            x.most();
        }
    }
}
