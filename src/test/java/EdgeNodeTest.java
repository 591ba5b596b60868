/** The boundary cases of the NODES, and of promises 4 and 5. */
final class EdgeNodeTest {
    private static final int MIN = Integer.MIN_VALUE;
    private static final int MAX = Integer.MAX_VALUE;
    private static final int[] ANY_INTS = {MIN, -1, 0, 1, 59, 60, 255, MAX};

    public static void main(String[] args) {
        Check check = new Check();
        check.sentence("NODES are numbered 0, 1, .. as they are made", EdgeNodeTest::numbers);
        check.sentence("at most 60; or 60 nodes: REFUSED", EdgeNodeTest::sixty);
        check.sentence("A node is used by at most one other node", EdgeNodeTest::usedOnce);
        check.sentence("made later", EdgeNodeTest::madeLater);
        check.sentence("kind out of 0 .. 21: REFUSED", EdgeNodeTest::kinds);
        check.sentence("a variable out of 0 .. 3: REFUSED", EdgeNodeTest::variables);
        check.sentence("a SORT that is none: REFUSED", EdgeNodeTest::sorts);
        check.sentence("a count out of 1 .. 8: REFUSED", EdgeNodeTest::counts);
        check.sentence("an operand that is no node: REFUSED", EdgeNodeTest::noNode);
        check.sentence("an operand that is used already: REFUSED", EdgeNodeTest::usedAlready);
        check.sentence("an operand named twice: REFUSED", EdgeNodeTest::namedTwice);
        check.sentence("Operands that the kind does not name may be any int", EdgeNodeTest::anyInts);
        check.sentence("All nodes go: how many there were", EdgeNodeTest::clear);
        check.sentence("clear: The RESULTS stay", EdgeNodeTest::resultsStay);
        check.end();
    }

    /** A node of the kind over as many nodes as it needs: those from the number first on. */
    private static int over(GoalScanner x, int kind, int first) {
        boolean countBefore = kind == 17 || kind == 18;
        return countBefore ? x.node(kind, 1, first, 0) : x.node(kind, first, first + 1, first + 2);
    }

    private static GoalScanner numbersUpTo(int count) {
        GoalScanner x = new GoalScanner();
        for (int i = 0; i < count; i++) {
            x.node(0, 100 + i, 0, 0);
        }
        return x;
    }

    private static void numbers(Check check) {
        for (int kind = 0; kind <= 21; kind++) {
            GoalScanner x = numbersUpTo(3);
            int made = kind <= 7 ? x.node(kind, 0, 0, 0) : over(x, kind, 0);
            check.due("the number of a node of kind " + kind, made, 3);
            check.due("count(0)", x.count(0), 4);
            check.due("the number behind a refused node", x.node(22, 0, 0, 0) + x.node(0, 0, 0, 0), -1 + 4);
        }
    }

    private static void sixty(Check check) {
        for (int kind = 0; kind <= 21; kind++) {
            GoalScanner x = numbersUpTo(59);
            check.due("the 60th node, of kind " + kind, kind <= 7 ? x.node(kind, 0, 0, 0) : over(x, kind, 0), 59);
            check.due("count(0)", x.count(0), 60);
            for (int next = 0; next <= 21; next++) {
                check.refused("the 61st node, of kind " + next, next <= 7 ? x.node(next, 0, 0, 0) : over(x, next, 20));
            }
            check.due("count(0)", x.count(0), 60);
            check.due("used(20)", x.used(20) || x.used(21) || x.used(22), false);
            check.due("evaluate(58)", x.evaluate(58), 1);
            check.due("result(0)", x.result(0), 158);
        }
        GoalScanner x = numbersUpTo(60);
        check.due("evaluate(59)", x.evaluate(59), 1);
        check.due("result(0)", x.result(0), 159);
        check.refused("evaluate(60)", x.evaluate(60));
    }

    /** How many nodes a kind from 8 on names. */
    private static int operands(int kind) {
        if (kind == 19) {
            return 3;
        }
        return kind >= 9 && kind <= 16 ? 2 : 1;
    }

    private static void usedOnce(Check check) {
        for (int user = 8; user <= 21; user++) {
            for (int next = 8; next <= 21; next++) {
                GoalScanner x = numbersUpTo(6);
                check.due("the first user, of kind " + user, over(x, user, 0), 6);
                for (int operand = 0; operand < operands(user); operand++) {
                    check.refused("a second user of " + operand + ", of kind " + next, over(x, next, operand));
                }
                check.due("a user of others, of kind " + next, over(x, next, 3), 7);
            }
        }
    }

    private static void madeLater(Check check) {
        for (int kind : new int[] {8, 20, 21}) {
            GoalScanner x = numbersUpTo(2);
            check.refused("kind " + kind + " of itself", x.node(kind, 2, 0, 0));
            check.refused("kind " + kind + " of a later node", x.node(kind, 3, 0, 0));
            check.due("kind " + kind + " of the last node", x.node(kind, 1, 0, 0), 2);
        }
        for (int kind = 9; kind <= 16; kind++) {
            GoalScanner x = numbersUpTo(2);
            check.refused("kind " + kind + " of itself as a", x.node(kind, 2, 0, 0));
            check.refused("kind " + kind + " of itself as b", x.node(kind, 0, 2, 0));
            check.due("kind " + kind + " of the last node", x.node(kind, 1, 0, 0), 2);
        }
        for (int kind : new int[] {17, 18}) {
            GoalScanner x = numbersUpTo(2);
            check.refused("kind " + kind + " of itself", x.node(kind, 1, 2, 0));
            check.due("kind " + kind + " of the last node", x.node(kind, 1, 1, 0), 2);
        }
        GoalScanner x = numbersUpTo(3);
        check.refused("IF of itself as a", x.node(19, 3, 0, 1));
        check.refused("IF of itself as b", x.node(19, 0, 3, 1));
        check.refused("IF of itself as c", x.node(19, 0, 1, 3));
        check.due("IF of the last nodes", x.node(19, 2, 1, 0), 3);
    }

    private static void kinds(Check check) {
        for (int kind : new int[] {-1, 22, 23, -21, 256, 256 + 21, MIN, MAX}) {
            GoalScanner x = numbersUpTo(3);
            check.refused("node of kind " + kind, x.node(kind, 0, 1, 2));
            check.due("count(0)", x.count(0), 3);
            check.due("used", x.used(0) || x.used(1) || x.used(2), false);
        }
        GoalScanner x = numbersUpTo(1);
        check.due("node of kind 0", x.node(0, 0, 0, 0), 1);
        check.due("node of kind 21", x.node(21, 0, 0, 0), 2);
    }

    private static void variables(Check check) {
        for (int a : new int[] {-1, 4, 5, -4, 256, MIN, MAX}) {
            GoalScanner x = numbersUpTo(1);
            check.refused("VARIABLE " + a, x.node(1, a, 0, 0));
            check.refused("SET " + a, x.node(17, a, 0, 0));
            check.due("used(0)", x.used(0), false);
            check.due("count(0)", x.count(0), 1);
        }
        for (int a = 0; a <= 3; a++) {
            GoalScanner x = numbersUpTo(1);
            check.due("VARIABLE " + a, x.node(1, a, 0, 0), 1);
            check.due("SET " + a, x.node(17, a, 0, 0), 2);
        }
    }

    private static void sorts(Check check) {
        for (int kind : new int[] {4, 5, 7}) {
            for (int a : new int[] {-1, 5, 6, 7, 128, 254, 255, 512, 513, -256, MIN, MAX}) {
                GoalScanner x = new GoalScanner();
                check.refused("kind " + kind + " of SORT " + a, x.node(kind, a, 0, 0));
                check.due("count(0)", x.count(0), 0);
            }
            for (int a : new int[] {0, 1, 2, 3, 4, 256, 257, 510, 511}) {
                check.due("kind " + kind + " of SORT " + a, new GoalScanner().node(kind, a, 0, 0), 0);
            }
        }
    }

    private static void counts(Check check) {
        for (int a : new int[] {0, 9, 10, -1, -8, 256 + 1, MIN, MAX}) {
            GoalScanner x = numbersUpTo(1);
            check.refused("FIRST " + a, x.node(18, a, 0, 0));
            check.due("used(0)", x.used(0), false);
            check.due("count(0)", x.count(0), 1);
        }
        for (int a = 1; a <= 8; a++) {
            check.due("FIRST " + a, numbersUpTo(1).node(18, a, 0, 0), 1);
        }
    }

    private static void noNode(Check check) {
        for (int there : new int[] {0, 1, 3, 59}) {
            for (int wrong : new int[] {-1, there, there + 1, 60, MIN, MAX}) {
                wrongOperand(check, numbersUpTo(there), wrong, "no node");
            }
        }
        GoalScanner x = numbersUpTo(3);
        x.clear();
        wrongOperand(check, x, 0, "gone");
    }

    /** No kind takes the wrong operand, wherever it stands and whatever the others are. */
    private static void wrongOperand(Check check, GoalScanner x, int wrong, String why) {
        int before = x.count(0);
        for (int kind : new int[] {8, 20, 21}) {
            check.refused(kind + " of " + wrong + ", " + why, x.node(kind, wrong, 0, 0));
        }
        for (int kind = 9; kind <= 16; kind++) {
            check.refused(kind + " of " + wrong + " and 0, " + why, x.node(kind, wrong, 0, 0));
            check.refused(kind + " of 0 and " + wrong + ", " + why, x.node(kind, 0, wrong, 0));
        }
        check.refused("SET to " + wrong + ", " + why, x.node(17, 0, wrong, 0));
        check.refused("FIRST of " + wrong + ", " + why, x.node(18, 1, wrong, 0));
        check.refused("IF " + wrong + ", 0, 1, " + why, x.node(19, wrong, 0, 1));
        check.refused("IF 0, " + wrong + ", 1, " + why, x.node(19, 0, wrong, 1));
        check.refused("IF 0, 1, " + wrong + ", " + why, x.node(19, 0, 1, wrong));
        check.due("count(0)", x.count(0), before);
        check.due("used(0) or used(1)", x.used(0) || x.used(1), false);
    }

    private static void usedAlready(Check check) {
        for (int kind = 8; kind <= 21; kind++) {
            GoalScanner x = numbersUpTo(6);
            check.due("the user, of kind " + kind, over(x, kind, 3), 6);
            for (int operand = 3; operand < 3 + operands(kind); operand++) {
                check.due("used(" + operand + ")", x.used(operand), true);
                wrongOperand(check, x, operand, "used");
            }
            for (int operand = 3 + operands(kind); operand < 6; operand++) {
                check.due("used(" + operand + ")", x.used(operand), false);
            }
            check.due("IF of the others", x.node(19, 0, 1, 2), 7);
        }
    }

    private static void namedTwice(Check check) {
        for (int kind = 9; kind <= 16; kind++) {
            GoalScanner x = numbersUpTo(2);
            check.refused("kind " + kind + " of 0 twice", x.node(kind, 0, 0, 1));
            check.refused("kind " + kind + " of 1 twice", x.node(kind, 1, 1, 0));
            check.due("used", x.used(0) || x.used(1), false);
            check.due("kind " + kind + " of 0 and 1, and 1 unnamed", x.node(kind, 0, 1, 1), 2);
        }
        GoalScanner x = numbersUpTo(3);
        int[][] twice = {{0, 0, 1}, {0, 1, 0}, {1, 0, 0}, {2, 2, 2}};
        for (int[] named : twice) {
            String call = "IF " + named[0] + ", " + named[1] + ", " + named[2];
            check.refused(call, x.node(19, named[0], named[1], named[2]));
            check.due("used", x.used(0) || x.used(1) || x.used(2), false);
        }
        check.due("IF of three", x.node(19, 2, 0, 1), 3);
        // A variable or a count is no node, even where it is the same int.
        x = numbersUpTo(2);
        check.due("SET 1 to 1", x.node(17, 1, 1, 1), 2);
        check.due("used(1)", x.used(1), true);
        x = numbersUpTo(2);
        check.due("FIRST 1 of 1", x.node(18, 1, 1, 1), 2);
        check.due("used(1)", x.used(1), true);
    }

    private static void anyInts(Check check) {
        for (int any : ANY_INTS) {
            for (int other : ANY_INTS) {
                GoalScanner x = numbersUpTo(4);
                String unnamed = " with " + any + " and " + other;
                check.due("NUMBER" + unnamed, x.node(0, any, other, any), 4);
                check.due("VARIABLE" + unnamed, x.node(1, 0, any, other), 5);
                check.due("PLACE" + unnamed, x.node(2, any, other, any), 6);
                check.due("LENGTH" + unnamed, x.node(3, any, other, any), 7);
                check.due("ONE" + unnamed, x.node(4, 0, any, other), 8);
                check.due("RUN" + unnamed, x.node(5, 0, any, other), 9);
                check.due("VALUE" + unnamed, x.node(6, any, other, any), 10);
                check.due("SEEK" + unnamed, x.node(7, 0, any, other), 11);
                check.due("GO" + unnamed, x.node(8, 4, any, other), 12);
                check.due("SET" + unnamed, x.node(17, 0, 5, any), 13);
                check.due("FIRST" + unnamed, x.node(18, 1, 6, any), 14);
                check.due("NOT" + unnamed, x.node(20, 7, any, other), 15);
                check.due("MOST" + unnamed, x.node(21, 8, any, other), 16);
                check.due("the nodes that were not named are used",
                    x.used(0) || x.used(1) || x.used(2) || x.used(3), false);
            }
            for (int kind = 9; kind <= 16; kind++) {
                GoalScanner x = numbersUpTo(2);
                check.due("kind " + kind + " with " + any, x.node(kind, 0, 1, any), 2);
            }
        }
        usedOnesUnnamed(check);
    }

    /** Where no operand is named, even a node that is used already, or the named one once more, is just an int. */
    private static void usedOnesUnnamed(Check check) {
        for (int kind = 0; kind <= 21; kind++) {
            for (int unnamed : new int[] {0, 2}) {
                GoalScanner x = numbersUpTo(4);
                x.node(20, 0, 0, 0);
                boolean second = kind == 17 || kind == 18;
                int b = kind >= 9 && kind <= 19 && !second ? 3 : unnamed;
                int made = second ? x.node(kind, 2, 2, unnamed) : x.node(kind, 2, b, kind == 19 ? 1 : unnamed);
                check.due("kind " + kind + " with " + unnamed + " unnamed", made, 5);
                check.due("used(2)", x.used(2), kind >= 8);
                check.due("used(3)", x.used(3), kind >= 9 && kind <= 19 && !second);
            }
        }
    }

    private static void clear(Check check) {
        for (int there : new int[] {0, 1, 59, 60}) {
            GoalScanner x = numbersUpTo(there);
            check.due("clear() of " + there, x.clear(), there);
            check.due("count(0)", x.count(0), 0);
            check.due("clear() again", x.clear(), 0);
            check.refused("bound(0)", x.bound(0));
            check.refused("evaluate of the last", x.evaluate(there - 1));
            check.due("the first node behind it", x.node(0, 7, 0, 0), 0);
        }
        GoalScanner x = numbersUpTo(60);
        x.node(0, 0, 0, 0);
        check.due("clear() behind a refused node", x.clear(), 60);
        for (int i = 0; i < 60; i++) {
            check.due("a node behind clear()", x.node(2, 0, 0, 0), i);
        }
        check.refused("the 61st node behind clear()", x.node(2, 0, 0, 0));
        renewed(check);
    }

    /** What nodes were before clear is no matter for those behind it. */
    private static void renewed(Check check) {
        Build build = new Build("ab");
        build.heavy(2000);
        build.x.clear();
        for (int i = 0; i < 60; i++) {
            check.due("node", build.place(), i);
            check.due("used(" + i + ")", build.x.used(i), false);
            check.due("bound(" + i + ")", build.x.bound(i), 1);
            check.due("level(" + i + ")", build.x.level(i), 1);
        }
        check.due("evaluate", build.evaluated(59), "0@0");
        check.due("count(1)", build.x.count(1), 2);
    }

    private static void resultsStay(Check check) {
        Build build = new Build("ab");
        build.x.clear();
        check.due("no RESULTS", build.x.count(2), 0);
        build.x.evaluate(build.set(3, build.one(Build.ALL)));
        build.x.clear();
        check.due("one RESULT", build.results(), "97@1/3=97");
        build.x.evaluate(build.at(2, build.set(1, build.upTo63())));
        build.x.clear();
        check.due("count(2)", build.x.count(2), 64);
        check.due("count(3)", build.x.count(3), 64);
        for (int k = 0; k < 64; k++) {
            check.due("result(" + k + ")", build.x.result(k), k);
            check.due("variable(" + k + ", 1)", build.x.variable(k, 1), k);
        }
    }
}
