import java.util.ArrayList;
import java.util.List;
import java.util.function.BiConsumer;
import java.util.function.Consumer;
import java.util.function.ToLongFunction;

/**
 * Whether a refused call changes nothing: of two objects that are made alike one gets the call, and then both must
 * answer alike whatever is asked. Each look at them begins with two new objects, so that none gets 512 calls.
 */
final class Twins {
    private static final List<BiConsumer<GoalScanner, List<Long>>> LOOKS = List.of(
        Twins::lookAtNodes, Twins::lookAtResults, Twins::lookAtText, Twins::evaluateNodes, Twins::useNodes,
        Twins::joinNodes, Twins::typeOn, Twins::makeNodes);

    private final Check check;
    private final String state;
    private final Consumer<GoalScanner> setUp;

    Twins(Check check, String state, Consumer<GoalScanner> setUp) {
        this.check = check;
        this.state = state;
        this.setUp = setUp;
    }

    void refused(String name, ToLongFunction<GoalScanner> call) {
        unchangedBy(name, GoalScanner.REFUSED, call);
    }

    void none(String name, ToLongFunction<GoalScanner> call) {
        unchangedBy(name, GoalScanner.NONE, call);
    }

    void unchangedBy(String name, long due, ToLongFunction<GoalScanner> call) {
        for (int i = 0; i < LOOKS.size(); i++) {
            GoalScanner changed = made();
            GoalScanner left = made();
            check.due(name + ", " + state, call.applyAsLong(changed), due);
            check.due("look " + i + " behind " + name + ", " + state, answers(i, changed), answers(i, left));
        }
    }

    private GoalScanner made() {
        GoalScanner x = new GoalScanner();
        setUp.accept(x);
        return x;
    }

    private static String answers(int look, GoalScanner x) {
        List<Long> answers = new ArrayList<>();
        LOOKS.get(look).accept(x, answers);
        return answers.toString();
    }

    private static void lookAtNodes(GoalScanner x, List<Long> answers) {
        for (int what = 0; what <= 3; what++) {
            answers.add((long) x.count(what));
        }
        for (int node = 0; node <= 60; node++) {
            answers.add((long) x.bound(node));
            answers.add((long) x.level(node));
            answers.add(x.used(node) ? 1L : 0L);
        }
    }

    private static void lookAtResults(GoalScanner x, List<Long> answers) {
        for (int k = 0; k <= 64; k++) {
            answers.add(x.result(k));
            answers.add((long) x.place(k));
            for (int v = 0; v <= 3; v++) {
                answers.add(x.variable(k, v));
            }
        }
    }

    /** Reads eight characters at a time. */
    private static void lookAtText(GoalScanner x, List<Long> answers) {
        answers.add((long) x.clear());
        for (int from = 0; from < 24; from += 8) {
            int to = x.node(14, x.node(0, from, 0, 0), x.node(0, from + 7, 0, 0), 0);
            int read = x.node(16, x.node(8, to, 0, 0), x.node(4, 4, 0, 0), 0);
            answers.add((long) x.evaluate(read));
            for (int k = 0; k < 8; k++) {
                answers.add(x.result(k));
            }
        }
        answers.add((long) x.wipe());
    }

    private static void evaluateNodes(GoalScanner x, List<Long> answers) {
        for (int node = 0; node < 60; node++) {
            long count = x.evaluate(node);
            answers.add(count);
            answers.add(x.result((int) count - 1));
            answers.add(x.variable(0, 1));
            answers.add((long) x.attempt(node));
        }
    }

    /** Which nodes are free, and which are too heavy or too deep for one more above them. */
    private static void useNodes(GoalScanner x, List<Long> answers) {
        for (int node = 0; node < 60; node++) {
            answers.add((long) x.node(20, node, 0, 0));
        }
    }

    private static void joinNodes(GoalScanner x, List<Long> answers) {
        for (int node = 0; node < 59; node++) {
            for (int kind : new int[] {16, 15, 14}) {
                answers.add((long) x.node(kind, node, node + 1, 0));
            }
        }
    }

    private static void typeOn(GoalScanner x, List<Long> answers) {
        for (int i = 0; i < 26; i++) {
            answers.add((long) x.type('a' + i));
        }
        lookAtText(x, answers);
    }

    private static void makeNodes(GoalScanner x, List<Long> answers) {
        for (int i = 0; i < 61; i++) {
            answers.add((long) x.node(0, i, 0, 0));
        }
        for (int node = 0; node < 60; node++) {
            answers.add((long) x.attempt(node));
            answers.add(x.result(0));
        }
    }
}
