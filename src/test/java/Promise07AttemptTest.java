/** Promise 7: attempt keeps the first RESULT alone. */
final class Promise07AttemptTest {
    public static void main(String[] args) {
        Check check = new Check();
        Build build = new Build("ab");
        int some = build.set(2, build.series(4, 6));
        int none = build.nothing();
        int later = build.less(build.number(2), build.or(build.number(1), build.set(1, build.one(Build.ALL))));
        int nodes = build.x.count(0);
        check.due("attempt of some", build.x.attempt(some), 1);
        check.due("the RESULTS", build.results(), "4@0/2=4");
        check.due("count(2)", build.x.count(2), 1);
        check.due("result(1)", build.x.result(1), GoalScanner.NONE);
        check.due("attempt of one that comes late", build.x.attempt(later), 1);
        check.due("the RESULTS", build.results(), "97@1/1=97");
        build.x.evaluate(some);
        refused(check, build, nodes);
        check.due("attempt of none", build.x.attempt(none), 0);
        check.due("the RESULTS", build.results(), "");
        check.due("attempt of a used node", build.x.attempt(0), 1);
        check.due("the RESULTS", build.results(), "4@0");
        wholeOperands(check);
        check.end();
    }

    private static void refused(Check check, Build build, int nodes) {
        for (int node : new int[] {nodes, -1, 60, Integer.MIN_VALUE, Integer.MAX_VALUE}) {
            check.refused("attempt(" + node + ")", build.x.attempt(node));
            check.due("the RESULTS", build.results(), "4@0/2=4 5@0/2=5 6@0/2=6");
        }
    }

    /** The first RESULT of a node may need more than the first of its operand. */
    private static void wholeOperands(Check check) {
        Build build = new Build("");
        check.due("attempt of MOST", build.x.attempt(build.most(build.series(4, 6))), 1);
        check.due("the RESULTS", build.results(), "6@0");
        check.due("attempt of SAME", build.x.attempt(build.same(build.series(1, 3), build.number(3))), 1);
        check.due("the RESULTS", build.results(), "3@0");
    }
}
