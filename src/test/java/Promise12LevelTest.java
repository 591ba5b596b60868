/** Promise 12: the LEVEL of a node. */
final class Promise12LevelTest {
    public static void main(String[] args) {
        Check check = new Check();
        withoutOperands(check);
        withOperands(check);
        noSuch(check);
        check.end();
    }

    private static void withoutOperands(Check check) {
        GoalScanner x = new GoalScanner();
        for (int kind = 0; kind <= 7; kind++) {
            check.due("level of kind " + kind, x.level(x.node(kind, 0, 0, 0)), 1);
        }
    }

    private static void withOperands(Check check) {
        for (int kind = 8; kind <= 21; kind++) {
            Build build = new Build("");
            int[] operands = {build.number(1), build.number(2), build.number(3)};
            int plain = 1;
            boolean plainFirst = kind == 17 || kind == 18;
            int a = plainFirst ? plain : operands[0];
            check.due("level of kind " + kind, build.x.level(build.x.node(kind, a, operands[1], operands[2])), 2);
        }
        for (int kind = 9; kind <= 16; kind++) {
            Build build = new Build("");
            int deepA = build.x.node(kind, build.not(build.not(build.number(1))), build.number(1), 0);
            check.due("level of kind " + kind + ", a deeper", build.x.level(deepA), 4);
            int deepB = build.x.node(kind, build.number(1), build.not(build.not(build.number(1))), 0);
            check.due("level of kind " + kind + ", b deeper", build.x.level(deepB), 4);
        }
        Build build = new Build("");
        check.due("level of IF, a deeper",
            build.x.level(build.iff(build.not(build.number(1)), build.number(1), build.number(1))), 3);
        check.due("level of IF, b deeper",
            build.x.level(build.iff(build.number(1), build.not(build.number(1)), build.number(1))), 3);
        check.due("level of IF, c deeper",
            build.x.level(build.iff(build.number(1), build.number(1), build.not(build.number(1)))), 3);
    }

    private static void noSuch(Check check) {
        GoalScanner x = new GoalScanner();
        x.node(0, 0, 0, 0);
        for (int node : new int[] {1, -1, 59, 60, Integer.MIN_VALUE, Integer.MAX_VALUE}) {
            check.refused("level(" + node + ")", x.level(node));
        }
    }
}
