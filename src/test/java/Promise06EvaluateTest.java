/** Promise 6: evaluate keeps all RESULTS of a node in place of those before. */
final class Promise06EvaluateTest {
    public static void main(String[] args) {
        Check check = new Check();
        replacesResults(check);
        startsAnew(check);
        presentText(check);
        refused(check);
        mostResults(check);
        deepest(check);
        manyRowsAtOnce(check);
        check.end();
    }

    private static void replacesResults(Check check) {
        Build build = new Build("");
        int three = build.series(1, 3);
        int one = build.number(9);
        int none = build.nothing();
        check.due("evaluate", build.x.evaluate(three), 3);
        check.due("the RESULTS", build.results(), "1@0 2@0 3@0");
        check.due("evaluate", build.x.evaluate(one), 1);
        check.due("the RESULTS", build.results(), "9@0");
        check.due("evaluate", build.x.evaluate(none), 0);
        check.due("the RESULTS", build.results(), "");
        check.due("result(0)", build.x.result(0), GoalScanner.NONE);
    }

    private static void startsAnew(Check check) {
        Build build = new Build("ab");
        int moves = build.set(1, build.one(Build.ALL));
        int looks = build.add(build.variable(1), build.place());
        int both = build.then(moves, looks);
        check.due("evaluate of the whole", build.evaluated(both), "98@1/1=97");
        check.due("evaluate of a used part", build.evaluated(looks), "0@0");
        check.due("evaluate of the other part", build.evaluated(moves), "97@1/1=97");
        check.due("evaluate of the whole again", build.evaluated(both), "98@1/1=97");
    }

    private static void presentText(Check check) {
        Build build = new Build("ab");
        int run = build.run(Build.ALL);
        check.due("evaluate", build.evaluated(run), "2@2");
        build.type("c");
        check.due("the RESULTS stay", build.results(), "2@2");
        check.due("evaluate", build.evaluated(run), "3@3");
        build.retype("z");
        check.due("evaluate", build.evaluated(run), "1@1");
    }

    private static void refused(Check check) {
        Build build = new Build("a");
        build.one(Build.ALL);
        build.number(5);
        build.x.evaluate(0);
        build.x.type('b');
        for (int node : new int[] {2, -1, 60, Integer.MIN_VALUE, Integer.MAX_VALUE}) {
            check.refused("evaluate(" + node + ")", build.x.evaluate(node));
            check.due("the RESULTS", build.results(), "97@1");
            check.due("count(3)", build.x.count(3), 1);
        }
    }

    private static void mostResults(Check check) {
        Build build = new Build("aaaaaaaaaaaaaaaaaaaaaaaa");
        int pairs = build.add(build.seek(Build.ALL), build.mul(build.number(10), build.seek(Build.ALL)));
        check.due("evaluate", build.x.evaluate(pairs), 64);
        for (int k = 0; k < 64; k++) {
            check.due("result(" + k + ")", build.x.result(k), k / 8 + 10 * (k % 8));
        }
        check.due("result(64)", build.x.result(64), GoalScanner.NONE);
    }

    /** Six pairs inside one another, at LEVEL 8: rows of every LEVEL stand open at once. */
    private static void deepest(Check check) {
        Build build = new Build("");
        int node = build.number(0);
        for (int power = 1; power <= 32; power *= 2) {
            node = build.add(build.either(0, power), node);
        }
        check.due("level", build.x.level(node), 8);
        check.due("evaluate", build.x.evaluate(node), 64);
        for (int k = 0; k < 64; k++) {
            check.due("result(" + k + ")", build.x.result(k), k);
        }
    }

    /** While the innermost node works for the last time, some 200 RESULTS of those around it wait: none may be lost. */
    private static void manyRowsAtOnce(Check check) {
        Build build = new Build("aaaaaaaaaaaaaaaaaaaaaaaa");
        int inner = build.first(8, build.add(build.sixtyFour(), build.number(100)));
        int outer = build.most(build.add(build.seek(Build.ALL), inner));
        int before = build.add(build.seek(Build.ALL), build.first(7, build.seek(Build.ALL)));
        check.due("evaluate", build.x.evaluate(build.or(before, outer)), 57);
        for (int k = 0; k < 56; k++) {
            check.due("result(" + k + ")", build.x.result(k), k / 7 + k % 7);
        }
        check.due("result(56)", build.x.result(56), 7 + 7 + 100);
    }
}
