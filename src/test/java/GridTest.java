import java.util.Arrays;
import java.util.List;

/**
 * Every call, and every order, with all numbers around its limits in every state of the grid: LoopGroup answers as
 * PlainModel does, then and afterwards.
 */
public final class GridTest {
    private static final int MOST_TOLD = 10;
    private static int cases;
    private static int wrong;

    public static void main(String[] args) {
        for (Grid.State state : Grid.states()) {
            for (Grid.Call call : Grid.calls()) {
                compare(state, List.of(call));
            }
            int task = state.name().equals("all full") ? 23 : 0;
            for (Grid.Call order : Grid.orders(task)) {
                // The LOG behind the order tells whether it was a THROW.
                compare(state, List.of(order, new Grid.Call("order", task, 0, 99, 0), new Grid.Call("execute", task, 2),
                        new Grid.Call("execute", task, 0), new Grid.Call("step", 2), new Grid.Call("step", 0)));
            }
        }
        System.out.println(cases + " boundary cases, " + wrong + " not as the model");
        if (wrong != 0) {
            System.exit(1);
        }
    }

    private static void compare(Grid.State state, List<Grid.Call> calls) {
        cases++;
        Face real = new RealFace(state.n());
        Face model = new PlainModel(state.n());
        Grid.callAll(real, state.calls());
        Grid.callAll(model, state.calls());
        boolean right = sameAnswers(state, calls.get(0), real, model, calls)
                && sameAnswers(state, calls.get(0), real, model, Grid.afterwards());
        if (right && !Grid.seen(real).equals(Grid.seen(model))) {
            complain(state, calls.get(0), "is seen as " + Grid.seen(real) + ", the model " + Grid.seen(model));
        }
    }

    private static boolean sameAnswers(Grid.State state, Grid.Call about, Face real, Face model,
            List<Grid.Call> calls) {
        for (Grid.Call call : calls) {
            String got = Grid.answer(real, call);
            String due = Grid.answer(model, call);
            if (!got.equals(due)) {
                complain(state, about, call.name() + Arrays.toString(call.numbers()) + " answered " + got
                        + ", the model " + due);
                return false;
            }
        }
        return true;
    }

    private static void complain(Grid.State state, Grid.Call call, String what) {
        wrong++;
        if (wrong <= MOST_TOLD) {
            System.out.println(state.name() + ", " + call.name() + Arrays.toString(call.numbers()) + ": " + what);
        }
    }
}
