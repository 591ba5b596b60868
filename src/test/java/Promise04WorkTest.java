/** Promise 4: THE WORK of each kind, found by how much more work may stand beside a node, and its limit of 2000. */
final class Promise04WorkTest {
    private interface Recipe {
        int make(Build build);
    }

    public static void main(String[] args) {
        Check check = new Check();
        check.due("WORK 2000", makesWork(2000), true);
        check.due("WORK 2001", makesWork(2001), false);
        withoutOperands(check);
        withOneOperand(check);
        withPairs(check);
        hasWork(check, "OR", 1 + 8 + 4, build -> build.or(build.seek(0), build.ofWork(4)));
        hasWork(check, "IF", 1 + 3 + 8 + 5, build -> build.iff(build.ofWork(3), build.seek(0), build.ofWork(5)));
        check.end();
    }

    /** Whether a node with that WORK, above 1996, is made: THEN of 1995 and of what is missing to it. */
    private static boolean makesWork(int work) {
        Build build = new Build("");
        int heavy = build.not(build.then(build.sixtyFour(), build.ofWork(30)));
        return build.then(heavy, build.ofWork(work - 1996)) >= 0;
    }

    private static void withoutOperands(Check check) {
        for (int k = 0; k <= 6; k++) {
            int kind = k;
            hasWork(check, "kind " + kind, 1, build -> build.x.node(kind, 0, 0, 0));
        }
        hasWork(check, "SEEK", 8, build -> build.seek(0));
    }

    private static void withOneOperand(Check check) {
        for (int kind : new int[] {8, 20, 21}) {
            hasWork(check, "kind " + kind, 1 + 8, build -> build.x.node(kind, build.seek(0), 0, 0));
        }
        for (int kind : new int[] {17, 18}) {
            hasWork(check, "kind " + kind, 1 + 8, build -> build.x.node(kind, 2, build.seek(0), 0));
        }
    }

    private static void withPairs(Check check) {
        for (int kind : new int[] {9, 10, 11, 12, 13, 16}) {
            hasWork(check, "kind " + kind + ", a wide", 1 + 8 + 8 * 2,
                build -> build.x.node(kind, build.seek(0), build.ofWork(2), 0));
            hasWork(check, "kind " + kind + ", b wide", 1 + 2 + 8,
                build -> build.x.node(kind, build.ofWork(2), build.seek(0), 0));
        }
        hasWork(check, "TO", 8 * (1 + 1 + 1), build -> build.series(1, 2));
    }

    private static void hasWork(Check check, String what, int work, Recipe recipe) {
        check.due(what + " has at most the WORK " + work, fitsBeside(recipe, 28 - work), true);
        check.due(what + " has at least the WORK " + work, fitsBeside(recipe, 29 - work), false);
    }

    /** MOST of the node, then more, 64 times: WORK 74 + 64 * (2 + its own + more), at most 2000 up to 28. */
    private static boolean fitsBeside(Recipe recipe, int more) {
        Build build = new Build("");
        int both = build.then(build.most(recipe.make(build)), build.ofWork(more));
        return build.then(build.sixtyFour(), both) >= 0;
    }
}
