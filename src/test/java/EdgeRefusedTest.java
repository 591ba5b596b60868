/** "A refused call changes nothing": each call that can be refused, for each reason, in states from empty to full. */
final class EdgeRefusedTest {
    private static final int MIN = Integer.MIN_VALUE;
    private static final int MAX = Integer.MAX_VALUE;

    public static void main(String[] args) {
        Check check = new Check();
        check.sentence("A refused call changes nothing: a new object", EdgeRefusedTest::newObject);
        check.sentence("A refused call changes nothing: an object in use", EdgeRefusedTest::inUse);
        check.sentence("A refused call changes nothing: RESULTS of a former text", EdgeRefusedTest::formerText);
        check.sentence("A refused call changes nothing: BOUND, WORK and LEVEL", EdgeRefusedTest::atTheLimits);
        check.sentence("A refused call changes nothing: all is full", EdgeRefusedTest::full);
        check.end();
    }

    private static void newObject(Check check) {
        Twins twins = new Twins(check, "in a new object", x -> { });
        wrongCharacters(twins);
        wrongLeaves(twins);
        wrongOperands(twins, -1);
        wrongOperands(twins, 0);
        wrongOperands(twins, 60);
        noSuch(twins, 0, 0);
    }

    /** The text "a1b", eight nodes of which 2, 3 and 4 are used, and three RESULTS. */
    private static void someOfAll(GoalScanner x) {
        x.type('a');
        x.type('1');
        x.type('b');
        x.node(0, 5, 0, 0);
        x.node(4, 4, 0, 0);
        x.node(7, 4, 0, 0);
        x.node(17, 1, 2, 0);
        x.node(8, 3, 0, 0);
        x.node(6, 0, 0, 0);
        x.node(3, 0, 0, 0);
        x.node(2, 0, 0, 0);
        x.evaluate(4);
    }

    private static void inUse(Check check) {
        Twins twins = new Twins(check, "in an object in use", EdgeRefusedTest::someOfAll);
        wrongCharacters(twins);
        wrongLeaves(twins);
        for (int wrong : new int[] {-1, 8, 9, 60, MIN, MAX, 2, 3}) {
            wrongOperands(twins, wrong);
        }
        namedTwice(twins);
        noSuch(twins, 8, 3);
    }

    private static void formerText(Check check) {
        Twins twins = new Twins(check, "in another text than the RESULTS were made in", x -> {
            someOfAll(x);
            x.wipe();
            x.type('z');
        });
        wrongCharacters(twins);
        wrongLeaves(twins);
        namedTwice(twins);
        noSuch(twins, 8, 3);
    }

    private static void wrongCharacters(Twins twins) {
        for (int c : new int[] {-1, 256, MIN, MAX}) {
            twins.refused("type(" + c + ")", x -> x.type(c));
        }
    }

    private static void wrongLeaves(Twins twins) {
        for (int kind : new int[] {-1, 22, MIN, MAX}) {
            twins.refused("node of kind " + kind, x -> x.node(kind, 0, 1, 5));
        }
        for (int a : new int[] {-1, 4, MIN, MAX}) {
            twins.refused("VARIABLE " + a, x -> x.node(1, a, 0, 0));
            twins.refused("SET " + a, x -> x.node(17, a, 0, 0));
        }
        for (int a : new int[] {-1, 5, 255, 512}) {
            twins.refused("ONE of " + a, x -> x.node(4, a, 0, 0));
            twins.refused("RUN of " + a, x -> x.node(5, a, 0, 0));
            twins.refused("SEEK " + a, x -> x.node(7, a, 0, 0));
        }
        for (int a : new int[] {0, 9, MIN, MAX}) {
            twins.refused("FIRST " + a, x -> x.node(18, a, 0, 0));
        }
    }

    /** A wrong operand at each place, beside others that are right if there are nodes. */
    private static void wrongOperands(Twins twins, int wrong) {
        for (int kind : new int[] {8, 20, 21}) {
            twins.refused("kind " + kind + " of " + wrong, x -> x.node(kind, wrong, 0, 0));
        }
        for (int kind = 9; kind <= 16; kind++) {
            int pair = kind;
            twins.refused("kind " + pair + " of " + wrong + " and 0", x -> x.node(pair, wrong, 0, 0));
            twins.refused("kind " + pair + " of 0 and " + wrong, x -> x.node(pair, 0, wrong, 0));
        }
        twins.refused("SET to " + wrong, x -> x.node(17, 0, wrong, 0));
        twins.refused("FIRST of " + wrong, x -> x.node(18, 1, wrong, 0));
        twins.refused("IF " + wrong + ", 0, 1", x -> x.node(19, wrong, 0, 1));
        twins.refused("IF 0, " + wrong + ", 1", x -> x.node(19, 0, wrong, 1));
        twins.refused("IF 0, 1, " + wrong, x -> x.node(19, 0, 1, wrong));
    }

    private static void namedTwice(Twins twins) {
        for (int kind = 9; kind <= 16; kind++) {
            int pair = kind;
            twins.refused("kind " + pair + " of 0 twice", x -> x.node(pair, 0, 0, 0));
        }
        twins.refused("IF 0, 0, 1", x -> x.node(19, 0, 0, 1));
        twins.refused("IF 0, 1, 0", x -> x.node(19, 0, 1, 0));
        twins.refused("IF 1, 0, 0", x -> x.node(19, 1, 0, 0));
        twins.refused("IF 0, 0, 0", x -> x.node(19, 0, 0, 0));
    }

    /** All that asks for a node or a RESULT that is not there, or counts what there is not. */
    private static void noSuch(Twins twins, int nodes, int results) {
        for (int node : new int[] {-1, nodes, nodes + 1, 60, MIN, MAX}) {
            twins.refused("evaluate(" + node + ")", x -> x.evaluate(node));
            twins.refused("attempt(" + node + ")", x -> x.attempt(node));
            twins.refused("bound(" + node + ")", x -> x.bound(node));
            twins.refused("level(" + node + ")", x -> x.level(node));
            twins.unchangedBy("used(" + node + ")", 0, x -> x.used(node) ? 1 : 0);
        }
        for (int k : new int[] {-1, results, results + 1, 64, MIN, MAX}) {
            twins.none("result(" + k + ")", x -> x.result(k));
            twins.refused("place(" + k + ")", x -> x.place(k));
            twins.none("variable(" + k + ", 0)", x -> x.variable(k, 0));
        }
        for (int v : new int[] {-1, 4, MIN, MAX}) {
            twins.none("variable(0, " + v + ")", x -> x.variable(0, v));
        }
        for (int what : new int[] {-1, 4, MIN, MAX}) {
            twins.refused("count(" + what + ")", x -> x.count(what));
        }
    }

    private static void atTheLimits(Check check) {
        Twins wide = new Twins(check, "with a node of the BOUND 64", x -> {
            someOfAll(x);
            x.node(7, 4, 0, 0);
            x.node(7, 4, 0, 0);
            x.node(9, 8, 9, 0);
            x.node(7, 4, 0, 0);
        });
        for (int kind = 9; kind <= 16; kind++) {
            int pair = kind;
            wide.refused("kind " + pair + ", a with the BOUND 64", x -> x.node(pair, 10, 11, 0));
            wide.refused("kind " + pair + ", b with the BOUND 64", x -> x.node(pair, 11, 10, 0));
        }
        wide.refused("OR of the BOUND 65", x -> x.node(15, 10, 0, 0));
        wide.refused("OR of the BOUND 65, turned", x -> x.node(15, 0, 10, 0));
        deep(check);
        heavy(check);
    }

    private static void deep(Check check) {
        Twins deep = new Twins(check, "with a node of the LEVEL 8", x -> {
            someOfAll(x);
            x.node(0, 7, 0, 0);
            for (int node = 8; node < 15; node++) {
                x.node(21, node, 0, 0);
            }
        });
        for (int kind : new int[] {8, 20, 21}) {
            deep.refused("kind " + kind + " of the LEVEL 9", x -> x.node(kind, 15, 0, 0));
        }
        for (int kind = 9; kind <= 16; kind++) {
            int pair = kind;
            deep.refused("kind " + pair + " of the LEVEL 9 by a", x -> x.node(pair, 15, 0, 0));
            deep.refused("kind " + pair + " of the LEVEL 9 by b", x -> x.node(pair, 0, 15, 0));
        }
        deep.refused("SET of the LEVEL 9", x -> x.node(17, 0, 15, 0));
        deep.refused("FIRST of the LEVEL 9", x -> x.node(18, 1, 15, 0));
        deep.refused("IF of the LEVEL 9 by a", x -> x.node(19, 15, 0, 1));
        deep.refused("IF of the LEVEL 9 by b", x -> x.node(19, 0, 15, 1));
        deep.refused("IF of the LEVEL 9 by c", x -> x.node(19, 0, 1, 15));
    }

    private static void heavy(Check check) {
        Build heavy = new Build("");
        int top = heavy.heavy(2000);
        int one = top + 1;
        int two = top + 2;
        Twins twins = new Twins(check, "with a node of the WORK 2000", x -> {
            new Build(x, "ab").heavy(2000);
            x.node(0, 3, 0, 0);
            x.node(0, 4, 0, 0);
            x.evaluate(top);
        });
        for (int kind : new int[] {8, 20, 21}) {
            twins.refused("kind " + kind + " of the WORK 2001", x -> x.node(kind, top, 0, 0));
        }
        for (int kind = 9; kind <= 16; kind++) {
            int pair = kind;
            twins.refused("kind " + pair + " beyond the WORK 2000 by a", x -> x.node(pair, top, one, 0));
            twins.refused("kind " + pair + " beyond the WORK 2000 by b", x -> x.node(pair, one, top, 0));
        }
        twins.refused("SET of the WORK 2001", x -> x.node(17, 0, top, 0));
        twins.refused("FIRST of the WORK 2001", x -> x.node(18, 1, top, 0));
        twins.refused("IF of the WORK 2003 by a", x -> x.node(19, top, one, two));
        twins.refused("IF of the WORK 2003 by b", x -> x.node(19, one, top, two));
        twins.refused("IF of the WORK 2003 by c", x -> x.node(19, one, two, top));
    }

    /** 24 characters, 60 nodes and 64 RESULTS. */
    private static void fill(GoalScanner x) {
        Build build = new Build(x, "abcdefghijklmnopqrstuvw0");
        build.x.evaluate(build.then(build.set(1, build.seek(Build.ALL)), build.go(build.seek(Build.ALL))));
        for (int node = x.count(0); node < 60; node++) {
            build.number(node);
        }
    }

    private static void full(Check check) {
        Twins twins = new Twins(check, "with all full", EdgeRefusedTest::fill);
        for (int c : new int[] {0, 'a', 255, -1, 256}) {
            twins.refused("type(" + c + ")", x -> x.type(c));
        }
        for (int kind = 0; kind <= 7; kind++) {
            int leaf = kind;
            twins.refused("the 61st node, of kind " + leaf, x -> x.node(leaf, 0, 0, 0));
        }
        for (int kind = 8; kind <= 21; kind++) {
            int user = kind;
            twins.refused("the 61st node, of kind " + user,
                x -> user == 17 || user == 18 ? x.node(user, 1, 57, 0) : x.node(user, 57, 58, 59));
        }
        twins.refused("node of kind 22", x -> x.node(22, 57, 58, 59));
        noSuch(twins, 60, 64);
    }
}
