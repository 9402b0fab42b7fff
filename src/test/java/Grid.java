import java.util.ArrayList;
import java.util.List;

/**
 * What a boundary case is made of: objects in states that matter (nothing there, something there, all rows full,
 * blocked, shutting down, terminated), and every call with all numbers around its limits, each with each.
 */
final class Grid {
    private static final int MIN = Integer.MIN_VALUE;
    private static final int MAX = Integer.MAX_VALUE;
    private static final int[] LOOPS = {MIN, -3, -2, -1, 0, 2, 3, 8, MAX};
    private static final int[] TASKS = {MIN, -1, 0, 1, 2, 23, 24, MAX};
    private static final int[] PROMISES = {MIN, -1, 0, 1, 2, 3, 31, 32, MAX};
    private static final int[] CHANNELS = {MIN, -1, 0, 1, 2, 15, 16, MAX};
    private static final int[] TIMERS = {MIN, -1, 0, 1, 2, 23, 24, 399, 400, MAX};
    private static final int[] ANY = {MIN, 0, 3, MAX};
    private static final int[] NUMBERS = {MIN, -3, -2, -1, 0, 1, 2, 3, 15, 16, 23, 24, 31, 32, MAX};

    /** A call by its name and numbers. */
    record Call(String name, int... numbers) { }

    /** How an object is made and what is called before the case. */
    record State(String name, int n, List<Call> calls) { }

    private Grid() { }

    static List<State> states() {
        List<State> states = new ArrayList<>();
        states.add(new State("nothing there", 3, List.of()));
        states.add(new State("something there", 3, some()));
        states.add(new State("something there, one loop", 1, some()));
        states.add(new State("all full", 3, full()));
        states.add(new State("blocked", 3, blocked()));
        states.add(new State("shutting down", 3, and(some(), new Call("shutdown", 2, 5))));
        states.add(new State("blocked and shutting down", 3, and(blocked(), new Call("shutdown", 0, 0))));
        states.add(new State("loop 2 terminated", 3,
                and(some(), new Call("shutdown", 0, 0), new Call("step", 2))));
        return states;
    }

    /** Every call of the face but the constructor, with the numbers around its limits. */
    static List<Call> calls() {
        List<Call> calls = new ArrayList<>();
        add(calls, "task");
        add(calls, "order", TASKS, new int[] {MIN, -1, 0, 13, 14, MAX}, ANY, ANY);
        add(calls, "promise", LOOPS);
        add(calls, "channels", LOOPS, LOOPS);
        add(calls, "handler", CHANNELS, new int[] {-1, 0, 3, 4, 6, 7}, TASKS, new int[] {MIN, -2, -1, 0, 1, 2, 5, 6});
        add(calls, "advance", new int[] {MIN, -1, 0, 1, 999_999, 1_000_000, 1_000_001, MAX});
        add(calls, "execute", TASKS, LOOPS);
        add(calls, "timer", TASKS, new int[] {MIN, -1, 0, 1, MAX}, LOOPS);
        add(calls, "cancel", TIMERS);
        add(calls, "complete", PROMISES, new int[] {MIN, -1, 0, 1, 2, 3, 4, 5, MAX}, ANY);
        add(calls, "listen", PROMISES, TASKS);
        add(calls, "fire", CHANNELS, ANY);
        add(calls, "shutdown", new int[] {MIN, -1, 0, 1, 5, MAX}, new int[] {MIN, -1, 0, 1, 5, MAX});
        add(calls, "step", LOOPS);
        add(calls, "loop", LOOPS, new int[] {MIN, -1, 0, 1, 2, 3, 4, 5, MAX});
        add(calls, "look", PROMISES, new int[] {MIN, -1, 0, 1, 2, 3, MAX});
        add(calls, "trace", new int[] {MIN, -300, -1, 0, 1, 299, 300, MAX}, new int[] {MIN, -1, 0, 1, 2, 3, MAX});
        return calls;
    }

    /** Every kind of order with all numbers around all limits. */
    static List<Call> orders(int task) {
        List<Call> orders = new ArrayList<>();
        int[] kinds = {0, 1, 2, 3, 4, 5, 6, 7, 8, 9, 10, 11, 12, 13};
        add(orders, "order", new int[] {task}, kinds, NUMBERS, NUMBERS);
        return orders;
    }

    /** What is called behind a case: it brings to light what the case left behind. */
    static List<Call> afterwards() {
        return List.of(new Call("execute", 0, -2), new Call("task"), new Call("order", 0, 0, 1, 0),
                new Call("promise", 0), new Call("channels", 0, 0), new Call("handler", 0, 0, 0, -1),
                new Call("handler", 0, 0, 0, 0), new Call("timer", 0, 1, 0), new Call("cancel", 0),
                new Call("advance", 1), new Call("complete", 2, 3, 1), new Call("complete", 1, 1, 3),
                new Call("listen", 0, 0), new Call("fire", 0, 6), new Call("step", 0), new Call("step", 0),
                new Call("step", 0), new Call("step", 1), new Call("step", 1), new Call("step", 2),
                new Call("shutdown", 1, 2), new Call("advance", 3), new Call("step", 2), new Call("step", 1),
                new Call("step", 0), new Call("execute", 0, -2));
    }

    /** All that can be seen of an object's loops, its first promises, and the latest of its trace. */
    static String seen(Face face) {
        StringBuilder text = new StringBuilder();
        for (int i = 0; i < 3 * 5; i++) {
            text.append(Face.answer(face, "loop", i / 5, i % 5)).append(' ');
        }
        for (int i = 0; i < 3 * 3; i++) {
            text.append(Face.answer(face, "look", i / 3, i % 3)).append(' ');
        }
        int traced = (int) face.call("traced");
        text.append("of ").append(traced).append(':');
        for (int k = traced - 24; k < traced; k++) {
            text.append(' ').append(Face.answer(face, "trace", k, 0)).append(':')
                    .append(Face.answer(face, "trace", k, 1)).append(':').append(Face.answer(face, "trace", k, 2));
        }
        return text.toString();
    }

    static String answer(Face face, Call call) {
        return Face.answer(face, call.name(), call.numbers());
    }

    static void callAll(Face face, List<Call> calls) {
        for (Call call : calls) {
            answer(face, call);
        }
    }

    private static List<Call> some() {
        return List.of(new Call("task"), new Call("task"), new Call("order", 0, 0, 7, 0), new Call("order", 1, 8, 1, 0),
                new Call("order", 1, 0, 8, 0), new Call("promise", 0), new Call("promise", 1), new Call("promise", 0),
                new Call("complete", 0, 1, 5), new Call("complete", 2, 4, 0), new Call("channels", 0, 1),
                new Call("handler", 0, 1, 0, -1), new Call("handler", 0, 4, 0, -1), new Call("listen", 1, 0),
                new Call("timer", 0, 0, 0), new Call("timer", 1, 5, 1), new Call("execute", 0, 0));
    }

    private static List<Call> blocked() {
        return and(some(), new Call("execute", 1, 0), new Call("execute", 0, 0), new Call("step", 0),
                new Call("step", 0));
    }

    private static List<Call> full() {
        List<Call> calls = new ArrayList<>();
        times(calls, 24, new Call("task"));
        times(calls, 8, new Call("order", 0, 0, 7, 0));
        times(calls, 32, new Call("promise", 0));
        times(calls, 8, new Call("channels", 0, 1));
        times(calls, 6, new Call("handler", 0, 0, 0, -1));
        times(calls, 6, new Call("listen", 0, 1));
        times(calls, 24, new Call("timer", 0, 0, 0));
        times(calls, 24, new Call("execute", 0, 0));
        return calls;
    }

    private static void times(List<Call> calls, int count, Call call) {
        for (int i = 0; i < count; i++) {
            calls.add(call);
        }
    }

    private static List<Call> and(List<Call> calls, Call... more) {
        List<Call> all = new ArrayList<>(calls);
        all.addAll(List.of(more));
        return all;
    }

    private static void add(List<Call> calls, String name, int[]... choices) {
        int count = 1;
        for (int[] choice : choices) {
            count *= choice.length;
        }
        for (int i = 0; i < count; i++) {
            int[] numbers = new int[choices.length];
            int rest = i;
            for (int k = 0; k < choices.length; k++) {
                numbers[k] = choices[k][rest % choices[k].length];
                rest /= choices[k].length;
            }
            calls.add(new Call(name, numbers));
        }
    }
}
