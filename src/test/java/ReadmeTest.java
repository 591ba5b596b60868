/** The examples of README.md: every call that has its answer behind it there. */
final class ReadmeTest {
    public static void main(String[] args) {
        Check check = new Check();
        sum(check);
        severalWays(check);
        check.end();
    }

    private static void sum(Check check) {
        GoalScanner x = new GoalScanner();
        x.type('1');
        x.type('2');
        x.type('+');
        x.type('3');
        int left = x.node(6, 0, 0, 0);
        int plus = x.node(4, 256 + '+', 0, 0);
        int right = x.node(6, 0, 0, 0);
        int behind = x.node(16, plus, right, 0);
        int sum = x.node(9, left, behind, 0);
        check.due("evaluate(sum)", x.evaluate(sum), 1);
        check.due("result(0)", x.result(0), 15);
        check.due("place(0)", x.place(0), 4);
        check.due("count(3)", x.count(3), 1);
    }

    private static void severalWays(Check check) {
        GoalScanner x = new GoalScanner();
        x.type('a');
        x.type('b');
        x.type('7');
        int letters = x.node(7, 1, 0, 0);
        int there = x.node(8, letters, 0, 0);
        int kept = x.node(17, 2, there, 0);
        int read = x.node(4, 4, 0, 0);
        int each = x.node(16, kept, read, 0);
        check.due("evaluate(each)", x.evaluate(each), 2);
        check.due("result(0)", x.result(0), 97);
        check.due("result(1)", x.result(1), 98);
        check.due("variable(1, 2)", x.variable(1, 2), 1);
        check.due("result(2)", x.result(2), GoalScanner.NONE);
        check.due("attempt(each)", x.attempt(each), 1);
        check.due("bound(each)", x.bound(each), 8);
        check.due("level(each)", x.level(each), 4);
        check.due("used(read)", x.used(read), true);
        check.due("node of read once more", x.node(20, read, 0, 0), GoalScanner.REFUSED);
    }
}
