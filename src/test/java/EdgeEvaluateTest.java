/** The boundary cases of promises 6 and 7. */
final class EdgeEvaluateTest {
    private static final int MIN = Integer.MIN_VALUE;
    private static final int MAX = Integer.MAX_VALUE;

    public static void main(String[] args) {
        Check check = new Check();
        check.sentence("EVALUATES a node (used by another or not)", EdgeEvaluateTest::usedOrNot);
        check.sentence("evaluate: in the present text", EdgeEvaluateTest::presentText);
        check.sentence("its RESULTS are kept in place of those before: how many", EdgeEvaluateTest::evaluates);
        check.sentence("evaluate: No such node: REFUSED", EdgeEvaluateTest::noSuchNode);
        check.sentence("attempt: as far as its first RESULT alone", EdgeEvaluateTest::firstAlone);
        check.sentence("which is kept in place of those before: 1, or 0 if there is none", EdgeEvaluateTest::attempts);
        check.sentence("attempt: No such node: REFUSED", EdgeEvaluateTest::noSuchNodeToAttempt);
        check.sentence("BOUND at most 64, LEVEL at most 8: all are given", EdgeEvaluateTest::fullAtEveryLevel);
        check.end();
    }

    private static void usedOrNot(Check check) {
        Build build = new Build("ab");
        int one = build.one(Build.ALL);
        int set = build.set(1, one);
        int whole = build.then(set, build.add(build.variable(1), build.place()));
        for (int round = 0; round < 2; round++) {
            check.due("a node not used", build.evaluated(whole), "98@1/1=97");
            check.due("a node used", build.evaluated(set), "97@1/1=97");
            check.due("a node used by one used", build.evaluated(one), "97@1");
        }
        check.due("attempt of a node used", build.x.attempt(one), 1);
        check.due("attempt of a node not used", build.x.attempt(whole), 1);
        check.due("used(one) is as before", build.x.used(one), true);
        check.due("used(whole) is as before", build.x.used(whole), false);
    }

    private static void presentText(Check check) {
        Build build = new Build("");
        int run = build.run(Build.ALL);
        int length = build.length();
        check.due("RUN in the empty text", build.evaluated(run), "");
        build.type("a");
        check.due("RUN in one character", build.evaluated(run), "1@1");
        build.type("a".repeat(23));
        check.due("RUN in the full text", build.evaluated(run), "24@24");
        check.due("attempt in the full text", build.x.attempt(length), 1);
        check.due("the RESULT", build.results(), "24@0");
        build.x.wipe();
        check.due("the RESULT stays", build.results(), "24@0");
        check.due("attempt in the empty text", build.x.attempt(length), 1);
        check.due("the RESULT", build.results(), "0@0");
        check.due("RUN in the empty text", build.evaluated(run), "");
    }

    private static void evaluates(Check check) {
        Build build = new Build("");
        int none = build.nothing();
        int one = build.set(2, build.number(-5));
        int full = build.upTo63();
        check.due("evaluate of none", build.x.evaluate(none), 0);
        check.due("count(2)", build.x.count(2), 0);
        check.due("evaluate of 64", build.x.evaluate(full), 64);
        check.due("count(2)", build.x.count(2), 64);
        for (int k = 0; k < 64; k++) {
            check.due("result(" + k + ")", build.x.result(k), k);
        }
        check.due("evaluate of one", build.x.evaluate(one), 1);
        check.due("the RESULTS", build.results(), "-5@0/2=-5");
        check.due("result(1)", build.x.result(1), GoalScanner.NONE);
        check.due("evaluate of 64 again", build.x.evaluate(full), 64);
        // A variable that the RESULT before had is not this one's.
        check.due("variable(0, 2)", build.x.variable(0, 2), 0);
        check.due("result(63)", build.x.result(63), 63);
        check.due("evaluate of none", build.x.evaluate(none), 0);
        check.due("count(2)", build.x.count(2), 0);
        check.due("result(0)", build.x.result(0), GoalScanner.NONE);
        check.due("count(3)", build.x.count(3), 0);
    }

    private static void noSuchNode(Check check) {
        for (int there : new int[] {0, 1, 59, 60}) {
            Build build = new Build("a");
            for (int i = 0; i < there; i++) {
                build.number(1000 + i);
            }
            for (int node : new int[] {-1, there, there + 1, 60, MIN, MAX}) {
                check.refused("evaluate(" + node + ") of " + there, build.x.evaluate(node));
                check.due("count(2)", build.x.count(2), 0);
            }
            for (int node : new int[] {0, there - 1}) {
                check.due("evaluate(" + node + ")", build.x.evaluate(node), there == 0 ? -1 : 1);
                check.due("result(0)", build.x.result(0), there == 0 ? GoalScanner.NONE : 1000 + node);
            }
            build.x.type('b');
            for (int node : new int[] {-1, there}) {
                check.refused("evaluate(" + node + ") of " + there, build.x.evaluate(node));
                check.due("count(2)", build.x.count(2), Math.min(1, there));
                check.due("count(3)", build.x.count(3), 0);
            }
        }
    }

    private static void firstAlone(Check check) {
        Build build = new Build("abc");
        int full = build.set(1, build.upTo63());
        check.due("evaluate of 64", build.x.evaluate(full), 64);
        check.due("attempt of 64", build.x.attempt(full), 1);
        check.due("the RESULT", build.results(), "0@0");
        check.due("result(1)", build.x.result(1), GoalScanner.NONE);
        check.refused("place(1)", build.x.place(1));
        check.due("variable(1, 1)", build.x.variable(1, 1), GoalScanner.NONE);
        check.due("count(3)", build.x.count(3), 0);
        int late = build.same(build.seek(Build.ALL), build.number(2));
        check.due("attempt of one that comes late", build.x.attempt(late), 1);
        check.due("the RESULT", build.results(), "2@0");
        int most = build.most(build.seek(Build.ALL));
        check.due("attempt of one that needs them all", build.x.attempt(most), 1);
        check.due("the RESULT", build.results(), "2@0");
        int end = build.go(build.length());
        check.due("attempt at the end", build.x.attempt(end), 1);
        check.due("count(3)", build.x.count(3), 1);
    }

    private static void attempts(Check check) {
        Build build = new Build("a");
        int none = build.nothing();
        int one = build.set(3, build.one(Build.ALL));
        int full = build.upTo63();
        check.due("attempt of none", build.x.attempt(none), 0);
        check.due("count(2)", build.x.count(2), 0);
        check.due("attempt of one", build.x.attempt(one), 1);
        check.due("the RESULTS", build.results(), "97@1/3=97");
        check.due("attempt of none", build.x.attempt(none), 0);
        check.due("count(2)", build.x.count(2), 0);
        check.due("count(3)", build.x.count(3), 0);
        check.due("result(0)", build.x.result(0), GoalScanner.NONE);
        check.due("evaluate of 64", build.x.evaluate(full), 64);
        check.due("attempt of none", build.x.attempt(none), 0);
        check.due("count(2)", build.x.count(2), 0);
        check.due("evaluate of 64", build.x.evaluate(full), 64);
        check.due("attempt of one", build.x.attempt(one), 1);
        check.due("the RESULTS", build.results(), "97@1/3=97");
        check.due("attempt of 64", build.x.attempt(full), 1);
        check.due("the RESULTS", build.results(), "0@0");
    }

    private static void noSuchNodeToAttempt(Check check) {
        for (int there : new int[] {0, 1, 59, 60}) {
            Build build = new Build("");
            for (int i = 0; i < there; i++) {
                build.number(1000 + i);
            }
            for (int node : new int[] {0, there - 1}) {
                check.due("attempt(" + node + ")", build.x.attempt(node), there == 0 ? -1 : 1);
                check.due("used(" + node + ") behind it", build.x.used(node), false);
                check.due("result(0)", build.x.result(0), there == 0 ? GoalScanner.NONE : 1000 + node);
            }
            build.x.type('b');
            for (int node : new int[] {-1, there, there + 1, 60, MIN, MAX}) {
                check.refused("attempt(" + node + ") of " + there, build.x.attempt(node));
                check.due("count(2)", build.x.count(2), Math.min(1, there));
                check.due("count(3)", build.x.count(3), Math.min(1, there));
            }
        }
    }

    /** 64 RESULTS at every LEVEL up to the eighth, each a pair of those below: none may be lost on the way. */
    private static void fullAtEveryLevel(Check check) {
        Build build = new Build("");
        int node = build.upTo63();
        for (int level = 5; level <= 8; level++) {
            node = level % 2 == 0 ? build.add(node, build.number(1)) : build.add(build.number(1), node);
            check.due("level", build.x.level(node), level);
            check.due("bound", build.x.bound(node), 64);
        }
        check.due("evaluate", build.x.evaluate(node), 64);
        for (int k = 0; k < 64; k++) {
            check.due("result(" + k + ")", build.x.result(k), k + 4);
        }
    }
}
