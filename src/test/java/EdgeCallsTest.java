import java.util.function.ToLongFunction;

/** "An object is used for at most 512 calls after it has been made; what later calls answer is free." */
final class EdgeCallsTest {
    private static final int CALLS = 512;
    private static final int FURTHER_ROUNDS = 2000;
    private static final int[] INTS = {Integer.MIN_VALUE, -1, 0, 1, 7, 24, 59, 60, 256, Integer.MAX_VALUE};

    public static void main(String[] args) {
        Check check = new Check();
        check.sentence("at most 512 calls: type and wipe", EdgeCallsTest::typing);
        check.sentence("at most 512 calls: node and clear", EdgeCallsTest::making);
        check.sentence("at most 512 calls: evaluate and attempt", EdgeCallsTest::evaluating);
        check.sentence("at most 512 calls: those that only look", EdgeCallsTest::looking);
        check.sentence("at most 512 calls: refused ones", EdgeCallsTest::refusing);
        check.sentence("at most 512 calls: all of the same kind", EdgeCallsTest::sameCall);
        check.sentence("what later calls answer is free", EdgeCallsTest::laterCalls);
        check.end();
    }

    private static void typing(Check check) {
        GoalScanner x = new GoalScanner();
        for (int call = 1; call <= CALLS; call++) {
            int round = call % 26;
            if (round == 0) {
                check.due("call " + call + ", wipe()", x.wipe(), 24);
            } else {
                check.due("call " + call + ", type", x.type(call % 256), round <= 24 ? round : -1);
            }
        }
    }

    private static void making(Check check) {
        GoalScanner x = new GoalScanner();
        for (int call = 1; call <= CALLS; call++) {
            int round = call % 62;
            if (round == 0) {
                check.due("call " + call + ", clear()", x.clear(), 60);
            } else {
                check.due("call " + call + ", node", x.node(0, call, 0, 0), round <= 60 ? round - 1 : -1);
            }
        }
    }

    /** The heaviest node and the widest, over and over. */
    private static void evaluating(Check check) {
        Build build = new Build("a".repeat(24));
        int heavy = build.heavy(2000);
        int wide = build.upTo63();
        for (int call = 24 + build.x.count(0) + 2; call < CALLS - 3; call += 4) {
            check.due("evaluate of the WORK 2000", build.x.evaluate(heavy), 1);
            check.due("attempt of the WORK 2000", build.x.attempt(heavy), 1);
            check.due("attempt of the BOUND 64", build.x.attempt(wide), 1);
            check.due("evaluate of the BOUND 64", build.x.evaluate(wide), 64);
        }
        check.due("result(63)", build.x.result(63), 63);
    }

    private static void looking(Check check) {
        Build build = new Build("a");
        build.x.evaluate(build.set(2, build.run(Build.ALL)));
        for (int call = 5; call + 8 <= CALLS; call += 8) {
            check.due("result(0)", build.x.result(0), 1);
            check.due("place(0)", build.x.place(0), 1);
            check.due("variable(0, 2)", build.x.variable(0, 2), 1);
            check.due("bound(1)", build.x.bound(1), 1);
            check.due("level(1)", build.x.level(1), 2);
            check.due("used(0)", build.x.used(0), true);
            check.due("used(1)", build.x.used(1), false);
            check.due("count(3)", build.x.count(3), 1);
        }
    }

    private static void refusing(Check check) {
        GoalScanner x = new GoalScanner();
        for (int call = 1; call + 6 <= CALLS; call += 6) {
            check.refused("type(-1)", x.type(-1));
            check.refused("node of kind 22", x.node(22, 0, 0, 0));
            check.refused("NOT 0", x.node(20, 0, 0, 0));
            check.refused("evaluate(0)", x.evaluate(0));
            check.refused("attempt(0)", x.attempt(0));
            check.refused("count(4)", x.count(4));
        }
        check.due("type(0)", x.type(0), 1);
        check.due("node", x.node(4, 4, 0, 0), 0);
    }

    /** Up to the 512th call, which counts those that made the object ready. */
    private static void repeated(Check check, String call, long due, ToLongFunction<GoalScanner> asked) {
        Build build = new Build("ab");
        build.x.evaluate(build.set(2, build.run(Build.ALL)));
        for (int made = 2 + 2 + 1; made < CALLS; made++) {
            check.due("call " + (made + 1) + ", " + call, asked.applyAsLong(build.x), due);
        }
    }

    private static void sameCall(Check check) {
        repeated(check, "type(256)", GoalScanner.REFUSED, x -> x.type(256));
        repeated(check, "node of kind 22", GoalScanner.REFUSED, x -> x.node(22, 0, 0, 0));
        repeated(check, "evaluate(1)", 1, x -> x.evaluate(1));
        repeated(check, "attempt(1)", 1, x -> x.attempt(1));
        repeated(check, "result(0)", 2, x -> x.result(0));
        repeated(check, "place(0)", 2, x -> x.place(0));
        repeated(check, "variable(0, 2)", 2, x -> x.variable(0, 2));
        repeated(check, "bound(1)", 1, x -> x.bound(1));
        repeated(check, "level(1)", 2, x -> x.level(1));
        repeated(check, "used(0)", 1, x -> x.used(0) ? 1 : 0);
        for (int what = 0; what <= 3; what++) {
            int asked = what;
            repeated(check, "count(" + what + ")", what <= 1 ? 2 : 1, x -> x.count(asked));
        }
        GoalScanner empty = new GoalScanner();
        GoalScanner without = new GoalScanner();
        for (int call = 1; call <= CALLS; call++) {
            check.due("call " + call + ", wipe()", empty.wipe(), 0);
            check.due("call " + call + ", clear()", without.clear(), 0);
        }
    }

    /** They may answer anything, but none may throw or fail to end. */
    private static void laterCalls(Check check) {
        GoalScanner x = new GoalScanner();
        for (int call = 0; call < CALLS; call++) {
            x.count(0);
        }
        for (int i = 0; i < FURTHER_ROUNDS; i++) {
            allCalls(x, i, INTS[i % INTS.length], INTS[i / 3 % INTS.length]);
            if (i % 100 == 99) {
                x.wipe();
                x.clear();
            }
        }
    }

    private static void allCalls(GoalScanner x, int i, int a, int b) {
        x.type(a);
        x.node(i % 24 - 1, a, b, i % 60);
        x.node(i % 8, 3, a, b);
        x.evaluate(i % 60);
        x.attempt(b);
        x.result(a);
        x.place(b);
        x.variable(a, b);
        x.bound(a);
        x.level(b);
        x.used(a);
        x.count(b);
    }
}
