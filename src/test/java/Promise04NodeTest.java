/** Promise 4: node makes a node, or refuses and changes nothing. */
final class Promise04NodeTest {
    private static final int[] OFF_ALL = {-1, Integer.MIN_VALUE, Integer.MAX_VALUE};

    public static void main(String[] args) {
        Check check = new Check();
        numbersRise(check);
        wrongKinds(check);
        wrongPlainOperands(check);
        wrongNodeOperands(check);
        twiceNamed(check);
        refusalUsesNothing(check);
        levelLimit(check);
        nodeLimit(check);
        check.end();
    }

    private static void numbersRise(Check check) {
        GoalScanner x = new GoalScanner();
        for (int kind = 0; kind <= 7; kind++) {
            check.due("node of kind " + kind, x.node(kind, 3, -5, Integer.MAX_VALUE), kind);
        }
        check.due("node GO", x.node(8, 0, -1, -1), 8);
        for (int kind = 9; kind <= 16; kind++) {
            GoalScanner y = new GoalScanner();
            y.node(0, 1, 0, 0);
            y.node(0, 2, 0, 0);
            check.due("node of kind " + kind, y.node(kind, 0, 1, 0), 2);
        }
        check.due("node SET, variable and operand alike", x.node(17, 1, 1, 1), 9);
        check.due("node FIRST, count and operand alike", x.node(18, 2, 2, 2), 10);
        check.due("node IF", x.node(19, 3, 4, 5), 11);
        check.due("node NOT", x.node(20, 6, 6, 6), 12);
        check.due("node MOST", x.node(21, 7, 7, 7), 13);
        check.due("count(0)", x.count(0), 14);
    }

    private static void wrongKinds(Check check) {
        GoalScanner x = new GoalScanner();
        x.node(0, 0, 0, 0);
        x.node(0, 0, 0, 0);
        x.node(0, 0, 0, 0);
        int[] wrong = {-1, 22, 23, 256, Integer.MIN_VALUE, Integer.MAX_VALUE};
        for (int kind : wrong) {
            check.refused("node of kind " + kind, x.node(kind, 0, 1, 2));
        }
        check.due("count(0)", x.count(0), 3);
    }

    private static void wrongPlainOperands(Check check) {
        GoalScanner x = new GoalScanner();
        int operand = x.node(0, 0, 0, 0);
        for (int a : new int[] {-1, 4, 256, Integer.MIN_VALUE, Integer.MAX_VALUE}) {
            check.refused("VARIABLE " + a, x.node(1, a, 0, 0));
            check.refused("SET " + a, x.node(17, a, operand, 0));
        }
        for (int a : new int[] {-1, 5, 6, 255, 512, Integer.MIN_VALUE, Integer.MAX_VALUE}) {
            check.refused("ONE of " + a, x.node(4, a, 0, 0));
            check.refused("RUN of " + a, x.node(5, a, 0, 0));
            check.refused("SEEK " + a, x.node(7, a, 0, 0));
        }
        for (int a : new int[] {-1, 0, 9, Integer.MIN_VALUE, Integer.MAX_VALUE}) {
            check.refused("FIRST " + a, x.node(18, a, operand, 0));
        }
        check.due("count(0)", x.count(0), 1);
        check.due("used", x.used(operand), false);
        rightPlainOperands(check);
    }

    private static void rightPlainOperands(Check check) {
        GoalScanner x = new GoalScanner();
        int made = 0;
        for (int a : new int[] {0, 3}) {
            check.due("VARIABLE " + a, x.node(1, a, 0, 0), made);
            check.due("SET " + a, x.node(17, a, made, 0), made + 1);
            made += 2;
        }
        for (int a : new int[] {0, 1, 2, 3, 4, 256, 511}) {
            check.due("ONE of " + a, x.node(4, a, 0, 0), made);
            check.due("RUN of " + a, x.node(5, a, 0, 0), made + 1);
            check.due("SEEK " + a, x.node(7, a, 0, 0), made + 2);
            made += 3;
        }
        for (int a : new int[] {1, 8}) {
            check.due("NUMBER", x.node(0, Integer.MIN_VALUE, 0, 0), made);
            check.due("FIRST " + a, x.node(18, a, made, 0), made + 1);
            made += 2;
        }
    }

    private static void wrongNodeOperands(Check check) {
        GoalScanner x = new GoalScanner();
        for (int i = 0; i < 3; i++) {
            x.node(2, 0, 0, 0);
        }
        x.node(20, x.node(2, 0, 0, 0), 0, 0);
        int used = 3;
        int notYet = 5;
        for (int wrong : new int[] {used, notYet, OFF_ALL[0], OFF_ALL[1], OFF_ALL[2]}) {
            for (int kind : new int[] {8, 20, 21}) {
                check.refused(kind + " of " + wrong, x.node(kind, wrong, 0, 0));
            }
            for (int kind = 9; kind <= 16; kind++) {
                check.refused(kind + " of " + wrong + ", 0", x.node(kind, wrong, 0, 0));
                check.refused(kind + " of 0, " + wrong, x.node(kind, 0, wrong, 0));
            }
            check.refused("SET to " + wrong, x.node(17, 0, wrong, 0));
            check.refused("FIRST of " + wrong, x.node(18, 1, wrong, 0));
            check.refused("IF " + wrong + ", 0, 1", x.node(19, wrong, 0, 1));
            check.refused("IF 0, " + wrong + ", 1", x.node(19, 0, wrong, 1));
            check.refused("IF 0, 1, " + wrong, x.node(19, 0, 1, wrong));
        }
        check.due("count(0)", x.count(0), 5);
        check.due("IF 0, 1, 2 after all that", x.node(19, 0, 1, 2), 5);
    }

    private static void twiceNamed(Check check) {
        GoalScanner x = new GoalScanner();
        x.node(2, 0, 0, 0);
        x.node(2, 0, 0, 0);
        for (int kind = 9; kind <= 16; kind++) {
            check.refused(kind + " of the same twice", x.node(kind, 1, 1, 0));
        }
        check.refused("IF 0, 0, 1", x.node(19, 0, 0, 1));
        check.refused("IF 0, 1, 0", x.node(19, 0, 1, 0));
        check.refused("IF 1, 0, 0", x.node(19, 1, 0, 0));
        check.refused("IF 0, 0, 0", x.node(19, 0, 0, 0));
        check.due("used(0)", x.used(0), false);
        check.due("ADD 1, 0", x.node(9, 1, 0, 0), 2);
    }

    private static void refusalUsesNothing(Check check) {
        Build build = new Build("");
        int wide = build.sixtyFour();
        int seek = build.seek(Build.ALL);
        int count = build.x.count(0);
        check.refused("THEN with BOUND 512", build.then(wide, seek));
        check.due("used(wide)", build.x.used(wide), false);
        check.due("used(seek)", build.x.used(seek), false);
        check.due("count(0)", build.x.count(0), count);
        check.due("FIRST of the wide one", build.first(1, wide), count);
        check.due("THEN, now narrow", build.then(count, seek), count + 1);
    }

    private static void levelLimit(Check check) {
        Build build = new Build("");
        int deep = build.number(1);
        for (int level = 2; level <= 8; level++) {
            deep = build.not(deep);
            check.due("level", build.x.level(deep), level);
        }
        int flat = build.number(2);
        int other = build.number(3);
        check.refused("NOT at LEVEL 9", build.not(deep));
        check.refused("ADD at LEVEL 9 by a", build.add(deep, flat));
        check.refused("ADD at LEVEL 9 by b", build.add(flat, deep));
        check.refused("SET at LEVEL 9", build.set(0, deep));
        check.refused("IF at LEVEL 9 by a", build.iff(deep, flat, other));
        check.refused("IF at LEVEL 9 by b", build.iff(flat, deep, other));
        check.refused("IF at LEVEL 9 by c", build.iff(flat, other, deep));
        check.due("used(deep)", build.x.used(deep), false);
        check.due("evaluate of LEVEL 8", build.evaluated(deep), "");
    }

    private static void nodeLimit(Check check) {
        GoalScanner x = new GoalScanner();
        for (int i = 0; i < 60; i++) {
            check.due("node", x.node(0, i, 0, 0), i);
        }
        check.refused("the 61st node", x.node(0, 60, 0, 0));
        check.refused("the 61st node, with operands", x.node(9, 0, 1, 0));
        check.due("used(0)", x.used(0), false);
        check.due("count(0)", x.count(0), 60);
        x.evaluate(59);
        check.due("result(0)", x.result(0), 59);
        x.clear();
        check.due("node behind clear", x.node(0, 5, 0, 0), 0);
    }
}
