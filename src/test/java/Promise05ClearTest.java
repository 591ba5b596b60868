/** Promise 5: clear takes all nodes away and answers how many there were; the RESULTS stay. */
final class Promise05ClearTest {
    public static void main(String[] args) {
        Check check = new Check();
        Build build = new Build("ab");
        check.due("clear() without nodes", build.x.clear(), 0);
        build.then(build.one(Build.ALL), build.set(2, build.one(Build.ALL)));
        build.x.evaluate(3);
        check.due("clear()", build.x.clear(), 4);
        check.due("the RESULTS", build.results(), "98@2/2=98");
        check.due("count(3)", build.x.count(3), 1);
        check.due("count(0)", build.x.count(0), 0);
        check.due("count(1)", build.x.count(1), 2);
        goneNodes(check, build);
        check.due("clear() again", build.x.clear(), 0);
        newNodes(check, build);
        check.end();
    }

    private static void goneNodes(Check check, Build build) {
        check.refused("evaluate(3)", build.x.evaluate(3));
        check.refused("attempt(0)", build.x.attempt(0));
        check.refused("bound(0)", build.x.bound(0));
        check.refused("level(0)", build.x.level(0));
        check.due("used(0)", build.x.used(0), false);
        check.refused("NOT 0", build.not(0));
        check.due("the RESULTS", build.results(), "98@2/2=98");
    }

    private static void newNodes(Check check, Build build) {
        check.due("node", build.number(7), 0);
        check.due("used(0) is new", build.x.used(0), false);
        check.due("level(0) is new", build.x.level(0), 1);
        check.due("NOT 0", build.not(0), 1);
        check.due("evaluate(0)", build.evaluated(0), "7@0");
    }
}
