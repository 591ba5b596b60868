/** Promise 1: a new object has an empty text, no nodes and no RESULTS. */
final class Promise01NewObjectTest {
    public static void main(String[] args) {
        Check check = new Check();
        GoalScanner x = new GoalScanner();
        isEmpty(check, x);
        x.type('a');
        x.node(4, 4, 0, 0);
        x.evaluate(0);
        isEmpty(check, new GoalScanner());
        check.due("count(0) of the older object", x.count(0), 1);
        check.due("count(1) of the older object", x.count(1), 1);
        check.due("count(2) of the older object", x.count(2), 1);
        check.end();
    }

    private static void isEmpty(Check check, GoalScanner x) {
        for (int what = 0; what < 4; what++) {
            check.due("count(" + what + ")", x.count(what), 0);
        }
        check.due("result(0)", x.result(0), GoalScanner.NONE);
        check.refused("place(0)", x.place(0));
        check.due("variable(0, 0)", x.variable(0, 0), GoalScanner.NONE);
        check.refused("bound(0)", x.bound(0));
        check.refused("level(0)", x.level(0));
        check.due("used(0)", x.used(0), false);
        check.refused("evaluate(0)", x.evaluate(0));
        check.refused("attempt(0)", x.attempt(0));
        check.due("wipe()", x.wipe(), 0);
        check.due("clear()", x.clear(), 0);
    }
}
