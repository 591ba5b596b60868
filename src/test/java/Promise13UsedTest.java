/** Promise 13: used tells whether another node uses a node. */
final class Promise13UsedTest {
    public static void main(String[] args) {
        Check check = new Check();
        for (int kind = 0; kind <= 21; kind++) {
            operandsOf(check, kind);
        }
        noSuch(check);
        check.end();
    }

    /** Which of the nodes 1, 2 and 3 a node that is given all three uses. */
    private static String due(int kind) {
        if (kind <= 7) {
            return "false false false";
        }
        if (kind == 8 || kind >= 20) {
            return "true false false";
        }
        if (kind == 17 || kind == 18) {
            return "false true false";
        }
        return kind == 19 ? "true true true" : "true true false";
    }

    private static void operandsOf(Check check, int kind) {
        GoalScanner x = new GoalScanner();
        for (int i = 0; i < 4; i++) {
            x.node(2, 0, 0, 0);
        }
        check.due("node of kind " + kind, x.node(kind, 1, 2, 3), 4);
        check.due("used by kind " + kind, x.used(1) + " " + x.used(2) + " " + x.used(3), due(kind));
        check.due("used(0)", x.used(0), false);
        check.due("used(4)", x.used(4), false);
    }

    private static void noSuch(Check check) {
        GoalScanner x = new GoalScanner();
        x.node(20, x.node(0, 0, 0, 0), 0, 0);
        check.due("used(0)", x.used(0), true);
        for (int node : new int[] {2, -1, 59, 60, Integer.MIN_VALUE, Integer.MAX_VALUE}) {
            check.due("used(" + node + ")", x.used(node), false);
        }
        x.clear();
        check.due("used(0) without nodes", x.used(0), false);
        x.node(0, 0, 0, 0);
        check.due("used(0) of a new node", x.used(0), false);
    }
}
