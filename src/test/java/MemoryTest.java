import com.sun.management.ThreadMXBean;
import java.lang.management.ManagementFactory;

/**
 * "All memory is rows made once": once an object is made, its calls make nothing more, however busy its loops are.
 */
public final class MemoryTest {
    private static final ThreadMXBean THREADS = (ThreadMXBean) ManagementFactory.getThreadMXBean();
    private static final int TRIES = 5;
    private static final int ROUNDS = 12;

    public static void main(String[] args) {
        long least = Long.MAX_VALUE;
        // What the machine itself makes once, as when a class is loaded, is of the first try alone.
        for (int i = 0; i < TRIES; i++) {
            least = Math.min(least, bytesOfABusyRun());
        }
        System.out.println(least + " bytes made by the calls of a busy run");
        if (least != 0) {
            System.exit(1);
        }
    }

    private static long bytesOfABusyRun() {
        LoopGroup group = new LoopGroup(2);
        long before = THREADS.getCurrentThreadAllocatedBytes();
        setUp(group);
        for (int round = 0; round < ROUNDS; round++) {
            play(group, round);
        }
        end(group);
        return THREADS.getCurrentThreadAllocatedBytes() - before;
    }

    private static void setUp(LoopGroup group) {
        for (int i = 0; i < 4; i++) {
            group.task();
        }
        for (int i = 0; i < 2 * ROUNDS; i++) {
            group.promise(i % 2);
        }
        group.channels(0, 1);
        group.channels(0, 0);
        for (int kind = 0; kind < 6; kind++) {
            group.handler(0, kind, 1, -1);
            group.handler(2, 3, 1, -1);
            group.handler(3, 3, 1, -1);
        }
        group.handler(0, 0, 0, 0);
        group.handler(0, 6, 0, -1);
        group.order(0, 0, 7, 0);
        group.order(0, 1, 1, -2);
        group.order(0, 2, 1, 3);
        group.order(0, 3, 0, 0);
        group.order(0, 11, 0, 4);
        group.order(0, 10, 0, 5);
        group.order(0, 9, 0, 0);
        group.order(1, 0, 8, 0);
        group.order(1, 13, 0, 0);
        group.order(1, 7, 1, 3);
    }

    private static void play(LoopGroup group, int round) {
        group.listen(2 * round, 1);
        group.listen(2 * round + 1, 3);
        group.execute(0, -2);
        group.timer(1, round, 1);
        group.fire(0, round);
        group.complete(2 * round, 1 + round % 3, round);
        group.complete(2 * round + 1, 1, round);
        for (int i = 0; i < 4; i++) {
            group.step(0);
            group.step(1);
        }
        group.cancel(round);
        group.advance(1);
        look(group);
    }

    private static void look(LoopGroup group) {
        for (int what = 0; what < 3; what++) {
            group.loop(0, what);
            group.look(0, what);
            group.trace(group.traced() - 1, what);
        }
    }

    private static void end(LoopGroup group) {
        // Channels 2 and 3 echo what the other one echoes, so the queue is full from here on.
        group.fire(2, 5);
        group.shutdown(0, 0);
        for (int i = 0; i < 40; i++) {
            group.step(0);
            group.step(1);
        }
    }
}
