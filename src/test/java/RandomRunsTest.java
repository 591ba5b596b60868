import java.util.ArrayList;
import java.util.List;
import java.util.Random;

/** All promises: many runs of 512 calls, the same each time, in which the class must answer as the Model does. */
final class RandomRunsTest {
    private static final int RUNS = 3000;
    private static final int CALLS = 512;
    private static final int[] ODD_INTS = {-1, 5, 60, 255, 512, Integer.MIN_VALUE, Integer.MAX_VALUE};
    private static final String CHARACTERS = "0123456789abcz \t+A";

    private final Random random;
    private final GoalScanner x = new GoalScanner();
    private final Model model = new Model();
    private final Check check;
    private final String name;

    private RandomRunsTest(int run, Check check) {
        random = new Random(run);
        this.check = check;
        name = "run " + run + ", ";
    }

    public static void main(String[] args) {
        Check check = new Check();
        for (int run = 0; run < RUNS; run++) {
            new RandomRunsTest(run, check).play();
        }
        check.end();
    }

    private void play() {
        for (int call = 0; call < CALLS; call++) {
            int choice = random.nextInt(100);
            if (choice < 8) {
                type();
            } else if (choice < 60) {
                node();
            } else if (choice < 80) {
                solve();
            } else if (choice < 98) {
                look();
            } else if (random.nextInt(3) == 0) {
                check.due(name + "wipe()", x.wipe(), model.wipe());
            } else if (model.count(0) > 40) {
                check.due(name + "clear()", x.clear(), model.clear());
            }
        }
    }

    private int odd() {
        return ODD_INTS[random.nextInt(ODD_INTS.length)];
    }

    private void type() {
        int c = random.nextInt(10) == 0 ? random.nextInt(260) - 2
            : CHARACTERS.charAt(random.nextInt(CHARACTERS.length()));
        check.due(name + "type(" + c + ")", x.type(c), model.type(c));
    }

    private void node() {
        int kind = random.nextInt(40) == 0 ? random.nextInt(26) - 2 : pickKind();
        int a = switch (kind) {
            case 0 -> random.nextInt(20) == 0 ? odd() : random.nextInt(12) - 2;
            case 1, 17 -> random.nextInt(4);
            case 4, 5, 7 -> sort();
            case 18 -> 1 + random.nextInt(8);
            default -> operand();
        };
        if (random.nextInt(40) == 0) {
            a = odd();
        }
        int b = operand();
        int c = operand();
        String call = name + "node(" + kind + ", " + a + ", " + b + ", " + c + ")";
        check.due(call, x.node(kind, a, b, c), model.node(kind, a, b, c));
    }

    /** Leaves while few nodes are free, so that there are always operands. */
    private int pickKind() {
        return free().size() < 3 || random.nextInt(3) == 0 ? random.nextInt(8) : 8 + random.nextInt(14);
    }

    private int sort() {
        return random.nextInt(4) == 0 ? 256 + CHARACTERS.charAt(random.nextInt(CHARACTERS.length()))
            : random.nextInt(5);
    }

    private List<Integer> free() {
        List<Integer> free = new ArrayList<>();
        for (int i = 0; i < model.count(0); i++) {
            if (!model.used(i)) {
                free.add(i);
            }
        }
        return free;
    }

    private int operand() {
        List<Integer> free = free();
        if (free.isEmpty() || random.nextInt(30) == 0) {
            return random.nextInt(10) == 0 ? odd() : random.nextInt(62) - 1;
        }
        // Mostly the newest, so that the nodes grow deep and heavy up to the limits.
        int back = random.nextInt(3) == 0 ? random.nextInt(free.size()) : random.nextInt(Math.min(3, free.size()));
        return free.get(free.size() - 1 - back);
    }

    private void solve() {
        int node = random.nextInt(30) == 0 ? odd() : random.nextInt(Math.max(1, model.count(0)));
        if (random.nextInt(4) == 0) {
            check.due(name + "attempt(" + node + ")", x.attempt(node), model.attempt(node));
        } else {
            check.due(name + "evaluate(" + node + ")", x.evaluate(node), model.evaluate(node));
        }
        allResults();
    }

    private void allResults() {
        for (int k = 0; k <= model.count(2); k++) {
            check.due(name + "result(" + k + ")", x.result(k), model.result(k));
            check.due(name + "place(" + k + ")", x.place(k), model.place(k));
            for (int v = 0; v < 4; v++) {
                check.due(name + "variable(" + k + ", " + v + ")", x.variable(k, v), model.variable(k, v));
            }
        }
        check.due(name + "count(3)", x.count(3), model.count(3));
    }

    private void look() {
        int i = random.nextInt(10) == 0 ? odd() : random.nextInt(64);
        check.due(name + "bound(" + i + ")", x.bound(i), model.bound(i));
        check.due(name + "level(" + i + ")", x.level(i), model.level(i));
        check.due(name + "used(" + i + ")", x.used(i), model.used(i));
        int what = random.nextInt(6) - 1;
        check.due(name + "count(" + what + ")", x.count(what), model.count(what));
        int v = random.nextInt(6) - 1;
        check.due(name + "variable(" + i + ", " + v + ")", x.variable(i, v), model.variable(i, v));
        check.due(name + "result(" + i + ")", x.result(i), model.result(i));
        check.due(name + "place(" + i + ")", x.place(i), model.place(i));
    }
}
