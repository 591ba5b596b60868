/** Promise 11: THE BOUND of each kind of node, and its limit of 64. */
final class Promise11BoundTest {
    public static void main(String[] args) {
        Check check = new Check();
        kinds(check);
        limit(check);
        noSuch(check);
        check.end();
    }

    /** A node with that BOUND, 2 .. 8. */
    private static int wide(Build build, int bound) {
        return build.first(bound, build.seek(Build.ALL));
    }

    private static void kinds(Check check) {
        Build build = new Build("");
        GoalScanner x = build.x;
        for (int kind = 0; kind <= 6; kind++) {
            check.due("bound of kind " + kind, x.bound(x.node(kind, 0, 0, 0)), 1);
        }
        check.due("bound of SEEK", x.bound(build.seek(0)), 8);
        check.due("bound of GO", x.bound(build.go(wide(build, 3))), 3);
        check.due("bound of SET", x.bound(build.set(1, wide(build, 3))), 3);
        check.due("bound of FIRST, few asked", x.bound(build.first(2, wide(build, 3))), 2);
        check.due("bound of FIRST, many asked", x.bound(build.first(5, wide(build, 3))), 3);
        check.due("bound of NOT", x.bound(build.not(wide(build, 3))), 1);
        check.due("bound of MOST", x.bound(build.most(wide(build, 3))), 1);
        for (int kind : new int[] {9, 10, 11, 12, 13, 16}) {
            x.clear();
            check.due("bound of kind " + kind, x.bound(x.node(kind, wide(build, 3), wide(build, 5), 0)), 15);
        }
        x.clear();
        check.due("bound of TO", x.bound(build.to(wide(build, 2), wide(build, 3))), 48);
        check.due("bound of OR", x.bound(build.or(wide(build, 3), wide(build, 5))), 8);
        check.due("bound of IF, b greater", x.bound(build.iff(wide(build, 8), wide(build, 5), wide(build, 3))), 5);
        check.due("bound of IF, c greater", x.bound(build.iff(wide(build, 8), wide(build, 3), wide(build, 5))), 5);
        check.due("bound of a used node", x.bound(0), 8);
    }

    private static void limit(Check check) {
        Build build = new Build("");
        GoalScanner x = build.x;
        check.due("bound of MUL", x.bound(build.mul(build.seek(0), build.seek(0))), 64);
        check.due("bound of TO", x.bound(build.to(build.number(1), build.seek(0))), 64);
        check.refused("TO with BOUND 72", build.to(wide(build, 3), wide(build, 3)));
        x.clear();
        int sixty = build.mul(build.seek(0), wide(build, 7));
        int sixtyFour = build.or(sixty, build.seek(0));
        check.due("bound of OR", x.bound(sixtyFour), 64);
        check.refused("OR with BOUND 65", build.or(sixtyFour, build.number(1)));
        int nine = build.mul(wide(build, 3), wide(build, 3));
        check.refused("SUB with BOUND 72", build.sub(nine, build.seek(0)));
        check.refused("THEN with BOUND 4096", build.then(sixtyFour, build.sixtyFour()));
        check.due("IF of wide ones", x.bound(build.iff(build.sixtyFour(), sixtyFour, build.number(1))), 64);
    }

    private static void noSuch(Check check) {
        GoalScanner x = new GoalScanner();
        x.node(0, 0, 0, 0);
        for (int node : new int[] {1, -1, 59, 60, Integer.MIN_VALUE, Integer.MAX_VALUE}) {
            check.refused("bound(" + node + ")", x.bound(node));
        }
    }
}
