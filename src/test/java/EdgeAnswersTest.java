/** The boundary cases of promise 1 and of promises 8 to 14. */
final class EdgeAnswersTest {
    private static final int MIN = Integer.MIN_VALUE;
    private static final int MAX = Integer.MAX_VALUE;

    public static void main(String[] args) {
        Check check = new Check();
        check.sentence("A new object: Empty text", EdgeAnswersTest::newText);
        check.sentence("A new object: no nodes", EdgeAnswersTest::newNodes);
        check.sentence("A new object: no RESULTS", EdgeAnswersTest::newResults);
        check.sentence("The int of RESULT k, from 0; NONE if there is no such", EdgeAnswersTest::result);
        check.sentence("The place in the STATE of RESULT k; REFUSED if there is no such", EdgeAnswersTest::place);
        check.sentence("Variable v 0 .. 3 of RESULT k; NONE if there is no such", EdgeAnswersTest::variable);
        check.sentence("THE BOUND of a node; REFUSED if there is no such", EdgeAnswersTest::bound);
        check.sentence("The LEVEL of a node; REFUSED if there is no such", EdgeAnswersTest::level);
        check.sentence("Whether another node uses it; false if there is no such", EdgeAnswersTest::used);
        check.sentence("count 0: nodes", EdgeAnswersTest::countNodes);
        check.sentence("count 1: the text's length", EdgeAnswersTest::countText);
        check.sentence("count 2: RESULTS", EdgeAnswersTest::countResults);
        check.sentence("count 3: how many have the place at the text's length", EdgeAnswersTest::countAtEnd);
        check.sentence("count 3: (as it was when they were made)", EdgeAnswersTest::countAtFormerEnd);
        check.sentence("count: Else REFUSED", EdgeAnswersTest::countElse);
        check.end();
    }

    private static void newText(Check check) {
        new Build("a".repeat(24));
        check.due("count(1)", new GoalScanner().count(1), 0);
        check.due("wipe()", new GoalScanner().wipe(), 0);
        check.due("the first type", new GoalScanner().type('a'), 1);
        Build build = new Build("");
        check.due("LENGTH", build.evaluated(build.length()), "0@0");
        check.due("RUN", build.evaluated(build.run(Build.ALL)), "");
    }

    private static void newNodes(Check check) {
        new Build("").upTo63();
        GoalScanner x = new GoalScanner();
        check.due("count(0)", x.count(0), 0);
        check.due("clear()", x.clear(), 0);
        check.refused("evaluate(0)", x.evaluate(0));
        check.refused("attempt(0)", x.attempt(0));
        check.refused("bound(0)", x.bound(0));
        check.refused("level(0)", x.level(0));
        check.due("used(0)", x.used(0), false);
        check.refused("NOT 0", x.node(20, 0, 0, 0));
        check.due("the first node", x.node(0, 0, 0, 0), 0);
    }

    private static void newResults(Check check) {
        Build before = new Build("");
        before.x.evaluate(before.upTo63());
        GoalScanner x = new GoalScanner();
        check.due("count(2)", x.count(2), 0);
        check.due("count(3)", x.count(3), 0);
        for (int k : new int[] {-1, 0, 1, 63}) {
            check.due("result(" + k + ")", x.result(k), GoalScanner.NONE);
            check.refused("place(" + k + ")", x.place(k));
            check.due("variable(" + k + ", 0)", x.variable(k, 0), GoalScanner.NONE);
        }
    }

    /** An object with as many RESULTS, up to 64: k has the int k, and the variables k + 64 - count and k. */
    private static GoalScanner withResults(int count) {
        Build build = new Build("a".repeat(24));
        int values = build.set(0, build.less(build.number(63 - count), build.upTo63()));
        int shifted = build.sub(values, build.number(64 - count));
        build.x.evaluate(build.set(1, shifted));
        return build.x;
    }

    /** For no, one and 64 RESULTS: those that are not there, on both sides. */
    private static int[] noSuch(int count) {
        return new int[] {-1, count, count + 1, 64, 65, -count - 1, MIN, MAX, MIN / 4, 1 << 30};
    }

    private static void result(Check check) {
        for (int count : new int[] {0, 1, 2, 63, 64}) {
            GoalScanner x = withResults(count);
            check.due("count(2)", x.count(2), count);
            for (int k = 0; k < count; k++) {
                check.due("result(" + k + ") of " + count, x.result(k), k);
            }
            for (int k : noSuch(count)) {
                check.due("result(" + k + ") of " + count, x.result(k), GoalScanner.NONE);
            }
        }
        for (int value : new int[] {MIN, -1, 0, 1, MAX}) {
            Build build = new Build("");
            build.x.evaluate(build.number(value));
            check.due("result(0)", build.x.result(0), value);
        }
    }

    private static void place(Check check) {
        Build build = new Build("a".repeat(24));
        build.x.evaluate(build.go(build.upTo63()));
        for (int k = 0; k <= 24; k++) {
            check.due("place(" + k + ")", build.x.place(k), k);
        }
        check.refused("place(25)", build.x.place(25));
        for (int count : new int[] {0, 1, 2, 63, 64}) {
            GoalScanner x = withResults(count);
            for (int k : noSuch(count)) {
                check.refused("place(" + k + ") of " + count, x.place(k));
            }
            check.due("place of the last of " + count, x.place(count - 1), count == 0 ? -1 : 0);
        }
    }

    private static void variable(Check check) {
        for (int count : new int[] {0, 1, 2, 63, 64}) {
            GoalScanner x = withResults(count);
            for (int k = 0; k < count; k++) {
                check.due("variable(" + k + ", 0)", x.variable(k, 0), k + 64 - count);
                check.due("variable(" + k + ", 1)", x.variable(k, 1), k);
                check.due("variable(" + k + ", 3)", x.variable(k, 3), 0);
            }
            for (int k : noSuch(count)) {
                for (int v : new int[] {-1, 0, 3, 4}) {
                    check.due("variable(" + k + ", " + v + ") of " + count, x.variable(k, v), GoalScanner.NONE);
                }
            }
            for (int v : new int[] {-1, 4, 5, -6, 6, MIN, MAX}) {
                check.due("variable(0, " + v + ") of " + count, x.variable(0, v), GoalScanner.NONE);
                check.due("variable(last, " + v + ") of " + count, x.variable(count - 1, v), GoalScanner.NONE);
            }
        }
        for (int v = 0; v <= 3; v++) {
            Build build = new Build("");
            build.x.evaluate(build.set(v, build.number(MIN)));
            check.due("variable(0, " + v + ")", build.x.variable(0, v), MIN);
        }
    }

    private static Build withNodes(int count) {
        Build build = new Build("");
        for (int i = 0; i < count; i++) {
            build.seek(Build.ALL);
        }
        return build;
    }

    private static void bound(Check check) {
        for (int count : new int[] {0, 1, 59, 60}) {
            Build build = withNodes(count);
            for (int node : noSuch(count)) {
                check.refused("bound(" + node + ") of " + count, build.x.bound(node));
            }
            for (int node = 0; node < count; node++) {
                check.due("bound(" + node + ") of " + count, build.x.bound(node), 8);
            }
            build.x.clear();
            check.refused("bound(0) behind clear()", build.x.bound(0));
        }
    }

    private static void level(Check check) {
        for (int count : new int[] {0, 1, 59, 60}) {
            Build build = withNodes(count);
            for (int node : noSuch(count)) {
                check.refused("level(" + node + ") of " + count, build.x.level(node));
            }
            for (int node = 0; node < count; node++) {
                check.due("level(" + node + ") of " + count, build.x.level(node), 1);
            }
            build.x.clear();
            check.refused("level(0) behind clear()", build.x.level(0));
        }
    }

    private static void used(Check check) {
        for (int count : new int[] {0, 1, 59, 60}) {
            Build build = withNodes(count);
            for (int node : noSuch(count)) {
                check.due("used(" + node + ") of " + count, build.x.used(node), false);
            }
            for (int node = 0; node < count; node++) {
                check.due("used(" + node + ") of " + count, build.x.used(node), false);
            }
        }
        Build build = withNodes(59);
        build.not(58);
        check.due("used(58)", build.x.used(58), true);
        check.due("used(59)", build.x.used(59), false);
        check.due("used(60)", build.x.used(60), false);
        build.x.clear();
        check.due("used(58) behind clear()", build.x.used(58), false);
    }

    private static void countNodes(Check check) {
        Build build = new Build("a");
        for (int count = 1; count <= 60; count++) {
            build.number(0);
            check.due("count(0)", build.x.count(0), count);
        }
        build.number(0);
        check.due("count(0) behind a refused node", build.x.count(0), 60);
        build.x.wipe();
        check.due("count(0) behind wipe()", build.x.count(0), 60);
        build.x.clear();
        check.due("count(0) behind clear()", build.x.count(0), 0);
    }

    private static void countText(Check check) {
        Build build = new Build("");
        for (int length = 1; length <= 24; length++) {
            build.x.type(0);
            check.due("count(1)", build.x.count(1), length);
        }
        build.x.type(0);
        check.due("count(1) behind a refused type", build.x.count(1), 24);
        build.x.clear();
        check.due("count(1) behind clear()", build.x.count(1), 24);
        build.x.wipe();
        check.due("count(1) behind wipe()", build.x.count(1), 0);
    }

    private static void countResults(Check check) {
        for (int count = 0; count <= 64; count++) {
            check.due("count(2)", withResults(count).count(2), count);
        }
        GoalScanner x = withResults(64);
        x.evaluate(60);
        x.attempt(-1);
        check.due("count(2) behind refused calls", x.count(2), 64);
        x.wipe();
        x.clear();
        check.due("count(2) behind wipe() and clear()", x.count(2), 64);
    }

    private static void countAtEnd(Check check) {
        Build empty = new Build("");
        empty.x.evaluate(empty.upTo63());
        check.due("all 64 at the end of the empty text", empty.x.count(3), 64);
        empty.x.evaluate(empty.nothing());
        check.due("no RESULT", empty.x.count(3), 0);
        for (int length : new int[] {1, 23, 24}) {
            Build build = new Build("a".repeat(length));
            build.x.evaluate(build.at(length, build.upTo63()));
            check.due("all 64 at the end of " + length, build.x.count(3), 64);
            build.x.evaluate(build.at(length - 1, build.upTo63()));
            check.due("all 64 just before it", build.x.count(3), 0);
            build.x.evaluate(build.go(build.upTo63()));
            check.due("one at each place", build.x.count(3), 1);
        }
        Build some = new Build("ab");
        some.x.evaluate(some.or(some.run(Build.ALL), some.or(some.one(Build.ALL), some.go(some.length()))));
        check.due("two of three", some.x.count(3), 2);
        some.x.attempt(some.run(Build.ALL));
        check.due("the one of attempt", some.x.count(3), 1);
        some.x.attempt(some.one(Build.ALL));
        check.due("not the one of attempt", some.x.count(3), 0);
    }

    private static void countAtFormerEnd(Check check) {
        Build build = new Build("ab");
        int each = build.go(build.upTo63());
        build.x.evaluate(each);
        check.due("in the text", build.x.count(3), 1);
        build.x.type('c');
        check.due("behind type", build.x.count(3), 1);
        build.x.wipe();
        check.due("behind wipe()", build.x.count(3), 1);
        build.x.evaluate(60);
        build.x.attempt(-1);
        check.due("behind refused calls in another text", build.x.count(3), 1);
        build.x.clear();
        check.due("behind clear()", build.x.count(3), 1);
        Build before = new Build("ab");
        before.x.evaluate(before.at(1, before.upTo63()));
        check.due("before the end", before.x.count(3), 0);
        before.x.wipe();
        before.x.type('a');
        // The present text is as long as those places say, but theirs was not.
        check.due("in a shorter text", before.x.count(3), 0);
        before.x.attempt(before.go(before.number(1)));
        check.due("made in the shorter text", before.x.count(3), 1);
    }

    private static void countElse(Check check) {
        for (GoalScanner x : new GoalScanner[] {new GoalScanner(), withResults(64)}) {
            for (int what : new int[] {-1, 4, 5, -3, 256, MIN, MAX}) {
                check.refused("count(" + what + ")", x.count(what));
            }
            for (int what = 0; what <= 3; what++) {
                check.taken("count(" + what + ")", x.count(what));
            }
        }
    }
}
