import java.util.ArrayList;
import java.util.List;
import java.util.Random;

/** All promises: many runs of 512 calls, the same each time, in which the class must answer as the Model does. */
final class RandomRunsTest {
    private static final int RUNS = 12000;
    private static final int CALLS = 512;
    private static final int RESULTS_LOOKED_AT = 6;
    private static final int[] ODD_INTS = {-1, 5, 60, 255, 512, Integer.MIN_VALUE, Integer.MAX_VALUE};
    private static final String CHARACTERS = "0123456789abcz \t+A";

    private final Random random;
    private final GoalScanner x = new GoalScanner();
    private final Model model = new Model();
    private final Check check;
    private final String name;
    private int calls;

    private RandomRunsTest(int run, Check check) {
        random = new Random(run);
        this.check = check;
        name = "run " + run + ", ";
    }

    public static void main(String[] args) {
        Check check = new Check();
        for (int run = 0; run < RUNS; run++) {
            new RandomRunsTest(run, check).play();
        }
        check.end();
    }

    private void play() {
        while (calls < CALLS) {
            int choice = random.nextInt(100);
            if (choice < 8) {
                type();
            } else if (choice < 72) {
                node();
            } else if (choice < 90) {
                solve();
            } else if (choice < 98) {
                look();
            } else if (random.nextInt(3) == 0) {
                due("wipe()", x.wipe(), model.wipe());
            } else if (model.count(0) > 40) {
                due("clear()", x.clear(), model.clear());
            }
        }
    }

    /** What calls beyond the limit answer is free: they are made, but not looked at. */
    private void due(String call, long got, long want) {
        calls++;
        if (calls <= CALLS) {
            check.due(name + "call " + calls + ", " + call, got, want);
        }
    }

    private int odd() {
        return ODD_INTS[random.nextInt(ODD_INTS.length)];
    }

    private void type() {
        int c = random.nextInt(10) == 0 ? random.nextInt(260) - 2
            : CHARACTERS.charAt(random.nextInt(CHARACTERS.length()));
        due("type(" + c + ")", x.type(c), model.type(c));
    }

    private void node() {
        int kind = random.nextInt(40) == 0 ? random.nextInt(26) - 2 : pickKind();
        int a = switch (kind) {
            case 0 -> random.nextInt(20) == 0 ? odd() : random.nextInt(12) - 2;
            case 1, 17 -> random.nextInt(4);
            case 4, 5, 7 -> sort();
            case 18 -> 1 + random.nextInt(8);
            default -> operand();
        };
        if (random.nextInt(40) == 0) {
            a = odd();
        }
        int b = operand();
        int c = operand();
        String call = "node(" + kind + ", " + a + ", " + b + ", " + c + ")";
        due(call, x.node(kind, a, b, c), model.node(kind, a, b, c));
    }

    /** Leaves while few nodes are free, so that there are always operands. */
    private int pickKind() {
        return free().size() < 3 || random.nextInt(3) == 0 ? random.nextInt(8) : 8 + random.nextInt(14);
    }

    private int sort() {
        return random.nextInt(4) == 0 ? 256 + CHARACTERS.charAt(random.nextInt(CHARACTERS.length()))
            : random.nextInt(5);
    }

    private List<Integer> free() {
        List<Integer> free = new ArrayList<>();
        for (int i = 0; i < model.count(0); i++) {
            if (!model.used(i)) {
                free.add(i);
            }
        }
        return free;
    }

    private int operand() {
        List<Integer> free = free();
        if (free.isEmpty() || random.nextInt(30) == 0) {
            return random.nextInt(10) == 0 ? odd() : random.nextInt(62) - 1;
        }
        // Mostly the newest, so that the nodes grow deep and heavy up to the limits.
        int back = random.nextInt(3) == 0 ? random.nextInt(free.size()) : random.nextInt(Math.min(3, free.size()));
        return free.get(free.size() - 1 - back);
    }

    private void solve() {
        int node = random.nextInt(30) == 0 ? odd() : random.nextInt(Math.max(1, model.count(0)));
        if (random.nextInt(4) == 0) {
            due("attempt(" + node + ")", x.attempt(node), model.attempt(node));
        } else {
            due("evaluate(" + node + ")", x.evaluate(node), model.evaluate(node));
        }
        someResults();
    }

    /** Some of the RESULTS and the one behind the last, so that a run has calls left for other things. */
    private void someResults() {
        int count = model.count(2);
        int looks = Math.min(count, RESULTS_LOOKED_AT);
        for (int i = 0; i <= looks; i++) {
            int k = i == looks ? count : count <= RESULTS_LOOKED_AT ? i : random.nextInt(count);
            int v = random.nextInt(4);
            due("result(" + k + ")", x.result(k), model.result(k));
            due("place(" + k + ")", x.place(k), model.place(k));
            due("variable(" + k + ", " + v + ")", x.variable(k, v), model.variable(k, v));
        }
        due("count(3)", x.count(3), model.count(3));
    }

    private void look() {
        int i = random.nextInt(10) == 0 ? odd() : random.nextInt(64);
        due("bound(" + i + ")", x.bound(i), model.bound(i));
        due("level(" + i + ")", x.level(i), model.level(i));
        due("used(" + i + ")", x.used(i) ? 1 : 0, model.used(i) ? 1 : 0);
        int what = random.nextInt(6) - 1;
        due("count(" + what + ")", x.count(what), model.count(what));
        int v = random.nextInt(6) - 1;
        due("variable(" + i + ", " + v + ")", x.variable(i, v), model.variable(i, v));
        due("result(" + i + ")", x.result(i), model.result(i));
        due("place(" + i + ")", x.place(i), model.place(i));
    }
}
