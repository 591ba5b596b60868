/** The boundary cases of the kinds 9 .. 16. */
final class EdgePairKindsTest {
    private static final int MIN = Integer.MIN_VALUE;
    private static final int MAX = Integer.MAX_VALUE;

    public static void main(String[] args) {
        Check check = new Check();
        check.sentence("9 .. 14, 16: for each RESULT x of a", EdgePairKindsTest::withoutX);
        check.sentence("9 .. 14, 16: for each y of b in x's STATE", EdgePairKindsTest::withoutY);
        check.sentence("9 .. 11: the sum, difference x - y or product", EdgePairKindsTest::allPairs);
        check.sentence("12 LESS: only those with x less than y", EdgePairKindsTest::less);
        check.sentence("13 SAME: or the same as y", EdgePairKindsTest::same);
        check.sentence("14 TO: x, x + 1, and so on up to y", EdgePairKindsTest::to);
        check.sentence("14 TO: at most 8 of them", EdgePairKindsTest::toMany);
        check.sentence("14 TO: all arithmetic wraps, and up to y is never beyond it", EdgePairKindsTest::toAtTheEnds);
        check.sentence("15 OR: the RESULTS of a in s, then those of b in s", EdgePairKindsTest::or);
        check.sentence("16 THEN: for each RESULT of a, those of b in its STATE", EdgePairKindsTest::then);
        check.end();
    }

    private static void gives(Check check, int kind, int x, int y, String due) {
        Build build = new Build("");
        int node = build.x.node(kind, build.number(x), build.number(y), 0);
        check.due("kind " + kind + " of " + x + " and " + y, build.evaluated(node), due);
    }

    private static void withoutX(Check check) {
        for (int kind : new int[] {9, 10, 11, 12, 13, 14, 16}) {
            Build build = new Build("ab");
            check.due("kind " + kind + " without x",
                build.evaluated(build.x.node(kind, build.nothing(), build.one(Build.ALL), 0)), "");
            check.due("kind " + kind + " without both",
                build.evaluated(build.x.node(kind, build.nothing(), build.nothing(), 0)), "");
        }
    }

    private static void withoutY(Check check) {
        for (int kind : new int[] {9, 10, 11, 12, 13, 14, 16}) {
            Build build = new Build("a");
            // b has a RESULT in s, but none in the STATE behind the only character.
            int node = build.x.node(kind, build.one(Build.ALL), build.one(Build.ALL), 0);
            check.due("kind " + kind + " without y", build.evaluated(node), "");
            check.due("kind " + kind + " with y of one x alone", build.evaluated(oneOfTwo(build, kind)),
                dueOneOfTwo(kind));
        }
    }

    /** x is 97 at the end of the text, where there is no y, and then 97 at place 0, where y is 97. */
    private static int oneOfTwo(Build build, int kind) {
        return build.x.node(kind, build.or(build.one(Build.ALL), build.number('a')), build.one(Build.ALL), 0);
    }

    private static String dueOneOfTwo(int kind) {
        return switch (kind) {
            case 9 -> "194@1";
            case 10 -> "0@1";
            case 11 -> "9409@1";
            case 12 -> "";
            default -> "97@1";
        };
    }

    private static void allPairs(Check check) {
        Build build = new Build("a".repeat(24));
        build.x.evaluate(build.sub(build.mul(build.seek(Build.ALL), build.number(100)), build.seek(Build.ALL)));
        check.due("count(2)", build.x.count(2), 64);
        for (int k = 0; k < 64; k++) {
            check.due("result(" + k + ")", build.x.result(k), k / 8 * 100 - k % 8);
        }
        check.due("result(64)", build.x.result(64), GoalScanner.NONE);
    }

    private static void less(Check check) {
        gives(check, 12, 4, 5, "5@0");
        gives(check, 12, 5, 5, "");
        gives(check, 12, 6, 5, "");
        gives(check, 12, -1, 0, "0@0");
        gives(check, 12, 0, -1, "");
        gives(check, 12, MAX - 1, MAX, MAX + "@0");
        gives(check, 12, MAX, MAX, "");
        gives(check, 12, MIN, MIN + 1, (MIN + 1) + "@0");
        gives(check, 12, MIN, MIN, "");
        // The difference of these wraps around.
        gives(check, 12, MIN, MAX, MAX + "@0");
        gives(check, 12, MAX, MIN, "");
        gives(check, 12, -2, MAX, MAX + "@0");
        gives(check, 12, 1, MIN, "");
        gives(check, 12, MIN, 1, "1@0");
    }

    private static void same(Check check) {
        for (int value : new int[] {MIN, -1, 0, 1, 127, 128, 1000, MAX}) {
            gives(check, 13, value, value, value + "@0");
            gives(check, 13, value, value + 1, "");
            gives(check, 13, value + 1, value, "");
        }
        gives(check, 13, MIN, MAX, "");
        gives(check, 13, 1, 65537, "");
        gives(check, 13, 5, -5, "");
    }

    private static void to(Check check) {
        gives(check, 14, 5, 3, "");
        gives(check, 14, 5, 4, "");
        gives(check, 14, 5, 5, "5@0");
        gives(check, 14, 5, 6, "5@0 6@0");
        gives(check, 14, -1, 1, "-1@0 0@0 1@0");
        gives(check, 14, 0, -1, "");
        Build build = new Build("ab");
        int states = build.to(build.set(0, build.one(Build.ALL)), build.set(1, build.one(Build.ALL)));
        check.due("TO has y's STATE", build.evaluated(states), "97@2/0=97/1=98 98@2/0=97/1=98");
    }

    private static void toMany(Check check) {
        gives(check, 14, 1, 7, "1@0 2@0 3@0 4@0 5@0 6@0 7@0");
        String eight = "1@0 2@0 3@0 4@0 5@0 6@0 7@0 8@0";
        gives(check, 14, 1, 8, eight);
        gives(check, 14, 1, 9, eight);
        gives(check, 14, 1, 1000000, eight);
        gives(check, 14, 1, MAX, eight);
        Build build = new Build("a".repeat(24));
        // At most 8 for each pair, not 8 in all.
        build.x.evaluate(build.to(build.seek(Build.ALL), build.number(100)));
        check.due("count(2) of 8 times 8", build.x.count(2), 64);
        for (int k = 0; k < 64; k++) {
            check.due("result(" + k + ")", build.x.result(k), k / 8 + k % 8);
        }
    }

    private static String rising(int from, int count) {
        StringBuilder shown = new StringBuilder();
        for (int i = 0; i < count; i++) {
            shown.append(i == 0 ? "" : " ").append(from + i).append("@0");
        }
        return shown.toString();
    }

    private static void toAtTheEnds(Check check) {
        gives(check, 14, MAX, MAX, rising(MAX, 1));
        gives(check, 14, MAX - 1, MAX, rising(MAX - 1, 2));
        gives(check, 14, MAX - 6, MAX, rising(MAX - 6, 7));
        gives(check, 14, MAX - 7, MAX, rising(MAX - 7, 8));
        gives(check, 14, MAX - 8, MAX, rising(MAX - 8, 8));
        gives(check, 14, MAX - 7, MAX - 1, rising(MAX - 7, 7));
        gives(check, 14, MAX, MAX - 1, "");
        gives(check, 14, MAX, MIN, "");
        gives(check, 14, MAX - 1, MIN + 1, "");
        gives(check, 14, MAX, 0, "");
        gives(check, 14, MIN, MIN, rising(MIN, 1));
        gives(check, 14, MIN, MIN + 6, rising(MIN, 7));
        gives(check, 14, MIN, MIN + 7, rising(MIN, 8));
        gives(check, 14, MIN, MIN + 8, rising(MIN, 8));
        gives(check, 14, MIN, MAX, rising(MIN, 8));
        gives(check, 14, MIN, 0, rising(MIN, 8));
        gives(check, 14, MIN + 1, MIN, "");
        gives(check, 14, 0, MIN, "");
        gives(check, 14, -1, MAX, rising(-1, 8));
    }

    private static void or(Check check) {
        Build build = new Build("ab");
        check.due("OR without a", build.evaluated(build.or(build.nothing(), build.one(Build.ALL))), "97@1");
        check.due("OR without b", build.evaluated(build.or(build.one(Build.ALL), build.nothing())), "97@1");
        check.due("OR without both", build.evaluated(build.or(build.nothing(), build.nothing())), "");
        int same = build.or(build.number(5), build.number(5));
        check.due("OR of equal ones keeps both", build.evaluated(same), "5@0 5@0");
        int sets = build.or(build.set(1, build.run(Build.ALL)), build.add(build.variable(1), build.place()));
        check.due("OR: b in s", build.evaluated(sets), "2@2/1=2 0@0");
        Build full = new Build("a".repeat(24));
        full.x.evaluate(full.or(full.ofBound(56), full.seek(Build.ALL)));
        check.due("OR of 56 and 8", full.x.count(2), 64);
        check.due("the first of b", full.x.result(56), 0);
        check.due("the last of b", full.x.result(63), 7);
    }

    private static void then(Check check) {
        Build build = new Build("ab");
        int one = build.then(build.go(build.series(-1, 3)), build.one(Build.ALL));
        check.due("THEN where b has none at the end", build.evaluated(one), "97@1 98@2");
        int never = build.then(build.go(build.series(0, 2)), build.one(Build.DIGITS));
        check.due("THEN where b has none anywhere", build.evaluated(never), "");
        Build full = new Build("a".repeat(24));
        full.x.evaluate(full.then(full.go(full.seek(Build.ALL)), full.seek(Build.ALL)));
        check.due("THEN of 8 and 8", full.x.count(2), 64);
        for (int k = 0; k < 64; k++) {
            check.due("result(" + k + ")", full.x.result(k), k / 8 + k % 8);
            check.due("place(" + k + ")", full.x.place(k), k / 8);
        }
    }
}
