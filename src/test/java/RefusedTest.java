import java.util.Arrays;

/**
 * A call that is refused changes nothing: in every state of the grid an object that refused a call goes on as one
 * that was never asked. (What is REJECTED is logged and moves the chooser; the runs tell of that.)
 */
public final class RefusedTest {
    private static final int MOST_TOLD = 10;
    private static int refused;
    private static int wrong;

    public static void main(String[] args) {
        for (Grid.State state : Grid.states()) {
            String due = goOn(state, null);
            for (Grid.Call call : Grid.calls()) {
                String got = goOn(state, call);
                if (got != null && !got.equals(due)) {
                    complain(state, call, got, due);
                }
            }
        }
        System.out.println(refused + " refused calls, " + wrong + " left something behind");
        if (wrong != 0 || refused == 0) {
            System.exit(1);
        }
    }

    /** What an object answers behind a refused call (or none), or nothing of a call that is not refused. */
    private static String goOn(Grid.State state, Grid.Call call) {
        Face face = new RealFace(state.n());
        Grid.callAll(face, state.calls());
        if (call != null) {
            long traced = face.call("traced");
            String answer = Grid.answer(face, call);
            boolean rejected = answer.equals("throws.IllegalStateException") && face.call("traced") != traced;
            if (!answer.startsWith("throws.") || rejected) {
                return null;
            }
            refused++;
        }
        StringBuilder text = new StringBuilder(Grid.seen(face));
        for (Grid.Call next : Grid.afterwards()) {
            text.append(" | ").append(Grid.answer(face, next));
        }
        return text.append(" | ").append(Grid.seen(face)).toString();
    }

    private static void complain(Grid.State state, Grid.Call call, String got, String due) {
        wrong++;
        if (wrong <= MOST_TOLD) {
            System.out.println(state.name() + ", " + call.name() + Arrays.toString(call.numbers())
                    + " left behind: " + got + ", due is " + due);
        }
    }
}
