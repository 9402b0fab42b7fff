import java.util.Arrays;
import java.util.Random;

/**
 * Random runs of calls (the seeds are fixed, so each is the same every time): LoopGroup answers as PlainModel does,
 * with ordinary numbers and with wrong ones, and throws nothing that the document does not tell.
 */
public final class ModelTest {
    private static final int RUNS = 4000;
    private static final int CALLS = 512;
    private static final int MOST_TOLD = 10;
    private static final int[] EDGES = {-3, -2, -1, 7, 8, 15, 16, 23, 24, 31, 32, 1_000_000, 1_000_001,
        Integer.MAX_VALUE, Integer.MIN_VALUE};

    private final Random random;
    private final int n;
    private final Face real;
    private final Face model;
    private final int[] orderKinds;
    private int calls;

    private ModelTest(int seed) {
        random = new Random(seed);
        n = random.nextInt(3) == 0 ? 1 + random.nextInt(8) : 1 + random.nextInt(2);
        real = new RealFace(n);
        model = new PlainModel(n);
        // Each run has its own few kinds of orders and handlers, so that deep and full states are reached.
        orderKinds = random.ints(1 + random.nextInt(10), 0, 14).toArray();
    }

    public static void main(String[] args) {
        int wrong = 0;
        for (int seed = 0; seed < RUNS && wrong < MOST_TOLD; seed++) {
            String fault = new ModelTest(seed).run();
            if (fault != null) {
                wrong++;
                System.out.println("seed " + seed + ": " + fault);
            }
        }
        System.out.println(RUNS + " random runs, " + wrong + " not as the model");
        if (wrong != 0) {
            System.exit(1);
        }
    }

    private String run() {
        String fault = setUp();
        while (fault == null && calls < CALLS) {
            fault = randomCall();
        }
        return fault != null ? fault : compareAll();
    }

    private String setUp() {
        String fault = null;
        int tasks = 1 + random.nextInt(8);
        for (int i = 0; i < tasks && fault == null; i++) {
            fault = call("task");
        }
        for (int i = random.nextInt(6); i > 0 && fault == null; i--) {
            fault = call("promise", random.nextInt(n));
        }
        for (int i = random.nextInt(3); i > 0 && fault == null; i--) {
            fault = call("channels", random.nextInt(n), random.nextInt(n));
        }
        for (int i = random.nextInt(tasks * 8); i > 0 && fault == null; i--) {
            fault = randomOrder();
        }
        for (int i = random.nextInt(20); i > 0 && fault == null; i--) {
            fault = call("handler", random.nextInt(4), random.nextInt(7), random.nextInt(tasks), -1);
        }
        return fault;
    }

    private String randomOrder() {
        return call("order", small(), orderKinds[random.nextInt(orderKinds.length)], small(), small());
    }

    private String randomCall() {
        switch (random.nextInt(40)) {
            case 0: return call("task");
            case 1: return randomOrder();
            case 2: return call("promise", loop());
            case 3: return call("channels", loop(), loop());
            case 4: return call("handler", small(), small(), small(), random.nextBoolean() ? -1 : small());
            case 5: return call("advance", random.nextInt(4) == 0 ? any() : random.nextInt(4));
            case 6: return call("cancel", random.nextBoolean() ? small() : random.nextInt(400));
            case 7: case 8: return call("complete", small(), 1 + random.nextInt(4), any());
            case 9: return call("complete", small(), any(), any());
            case 10: return call("listen", small(), small());
            case 11: case 12: case 13: return call("fire", small(), any());
            case 14: return random.nextInt(12) == 0 ? call("shutdown", small(), small()) : call("traced");
            case 15: return call("loop", loop(), small());
            case 16: return call("look", small(), small());
            case 17: return call("trace", random.nextInt(600), random.nextInt(4));
            case 18: case 19: return call("timer", small(), small(), loop());
            case 20: case 21: case 22: case 23: case 24: return call("execute", small(), loop());
            default: return call("step", random.nextInt(n));
        }
    }

    private int small() {
        return random.nextInt(20) == 0 ? any() : random.nextInt(6);
    }

    private int loop() {
        return random.nextInt(8) == 0 ? any() : random.nextInt(n);
    }

    private int any() {
        switch (random.nextInt(3)) {
            case 0: return EDGES[random.nextInt(EDGES.length)];
            case 1: return random.nextInt();
            default: return random.nextInt(40) - 10;
        }
    }

    private String call(String name, int... a) {
        calls++;
        return compare(name, a);
    }

    private String compare(String name, int... a) {
        String got = Face.answer(real, name, a);
        String due = Face.answer(model, name, a);
        return got.equals(due) ? null
                : "call " + calls + ", " + name + Arrays.toString(a) + " answered " + got + ", the model " + due;
    }

    private String compareAll() {
        String fault = compare("traced");
        for (int i = 0; i < n * 5 && fault == null; i++) {
            fault = compare("loop", i / 5, i % 5);
        }
        for (int i = 0; i < 32 * 3 && fault == null; i++) {
            fault = compare("look", i / 3, i % 3);
        }
        int traced = (int) model.call("traced");
        for (int k = Math.max(-1, traced - 302); k <= traced && fault == null; k++) {
            for (int what = 0; what < 3 && fault == null; what++) {
                fault = compare("trace", k, what);
            }
        }
        return fault;
    }
}
