import java.util.Arrays;

/**
 * Every method with every choice of arguments at and beyond the edges, in several states: no call
 * throws (LANGUAGE.md, rule 7), and each answers, and tells, as the model of the document does.
 */
public final class ArgumentsTest {
    private static final int[] EDGES = {Due.LEAST, -1, 0, 1, 2, 3, 4, 5, 63, 64, 65, Due.MOST};
    private static final int TOLD = 16;
    private static final int MOST_CALLS = 512;

    /** The calls that make each state, ahead of those that are tried: the method's number, then its arguments. */
    private static final int[][][] STATES = {
        {},
        {{0, 0, 0, 64}, {0, 0, 1, 64}, {0, 0, 2, 64}, {0, 0, 3, 64}, {0, 0, 4, 64}, {0, 3, 1, 64}, {10, 0, 1, 64, 64},
            {10, 1, 2, 64, 64}, {4, 0, 1, 63, -1}, {4, 0, 3, 0, 1}, {4, 3, 1, 0, 32767}, {14, 0, 63, 63, 32767}},
        {{0, 0, 0, 4}, {0, 0, 1, 3}, {0, 0, 2, 2}, {0, 0, 3, 1}, {0, 1, 1, 0}, {4, 0, 1, 1, 40}, {4, 0, 2, 1, -5},
            {4, 0, 3, 0, 9}, {8, 0}, {10, 0, 1, 3, 4}, {12, 0, 1}, {10, 1, 3, 2, 0}, {14, 0, 0, 3, 9}}};

    private TrayBench x;
    private Model model;
    private int calls;

    public static void main(String[] args) {
        for (int state = 0; state < STATES.length; state++) {
            for (int m = 0; m < Face.METHODS.length && Due.wrong() < 20; m++) {
                new ArgumentsTest().tryAll(state, m);
            }
        }
        Due.end();
    }

    private void tryAll(int state, int m) {
        int parameters = Face.parameters(m);
        int choices = 1;
        for (int p = 0; p < parameters; p++) {
            choices *= EDGES.length;
        }
        begin(state);
        for (int choice = 0; choice < choices && Due.wrong() < 20; choice++) {
            if (calls + 2 > MOST_CALLS) {
                begin(state);
            }
            compare(state, m, arguments(choice, parameters));
        }
    }

    private void begin(int state) {
        x = new TrayBench();
        model = new Model();
        calls = 0;
        for (int[] call : STATES[state]) {
            compare(state, call[0], Arrays.copyOfRange(call, 1, call.length));
        }
    }

    private static int[] arguments(int choice, int parameters) {
        int[] arguments = new int[parameters];
        int left = choice;
        for (int p = 0; p < parameters; p++) {
            arguments[p] = EDGES[left % EDGES.length];
            left /= EDGES.length;
        }
        return arguments;
    }

    private void compare(int state, int m, int[] a) {
        calls += 2;
        try {
            int got = Model.call(x, m, a);
            int told = x.told();
            int want = model.call(m, a);
            if (got != want || told != model.call(TOLD, a)) {
                String call = "state " + state + ": " + Face.names()[m] + Arrays.toString(a);
                Due.due(call, got, want);
                Due.due(call + ", then told()", told, model.call(TOLD, a));
            }
        } catch (RuntimeException | Error thrown) {
            String call = Face.names()[m] + Arrays.toString(a);
            Due.holds("state " + state + ": " + call + " ends without throwing " + thrown, false);
        }
    }
}
