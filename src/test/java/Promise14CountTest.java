/** Promise 14: count. */
final class Promise14CountTest {
    public static void main(String[] args) {
        Check check = new Check();
        Build build = new Build("abc");
        int some = build.or(build.go(build.series(0, 3)), build.run(Build.ALL));
        build.x.evaluate(some);
        counts(check, build.x, 6, 3, 5, 2);
        build.type("d");
        // The RESULTS were made in a text of three characters, and so they are counted.
        counts(check, build.x, 6, 4, 5, 2);
        build.x.wipe();
        counts(check, build.x, 6, 0, 5, 2);
        build.x.evaluate(99);
        build.x.attempt(-1);
        counts(check, build.x, 6, 0, 5, 2);
        build.x.clear();
        counts(check, build.x, 0, 0, 5, 2);
        build.number(1);
        build.x.attempt(0);
        counts(check, build.x, 1, 0, 1, 1);
        build.type("z");
        counts(check, build.x, 1, 1, 1, 1);
        build.x.attempt(0);
        counts(check, build.x, 1, 1, 1, 0);
        for (int what : new int[] {-1, 4, 5, Integer.MIN_VALUE, Integer.MAX_VALUE}) {
            check.refused("count(" + what + ")", build.x.count(what));
        }
        check.end();
    }

    private static void counts(Check check, GoalScanner x, int nodes, int length, int results, int atEnd) {
        check.due("count(0)", x.count(0), nodes);
        check.due("count(1)", x.count(1), length);
        check.due("count(2)", x.count(2), results);
        check.due("count(3)", x.count(3), atEnd);
    }
}
