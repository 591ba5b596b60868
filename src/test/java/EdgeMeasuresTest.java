import java.util.function.ToIntFunction;

/** The boundary cases of THE BOUND, THE WORK and the LEVEL. */
final class EdgeMeasuresTest {
    private static final int[] PRODUCTS = {9, 10, 11, 12, 13, 16};

    public static void main(String[] args) {
        Check check = new Check();
        check.sentence("THE BOUND: 0 .. 6, 20, 21: 1; 7: 8", EdgeMeasuresTest::fixedBounds);
        check.sentence("8, 17: that of its operand", EdgeMeasuresTest::boundsOfOne);
        check.sentence("9 .. 13, 16: the product of both; at most 64", EdgeMeasuresTest::products);
        check.sentence("14: 8 times the product; at most 64", EdgeMeasuresTest::eightTimes);
        check.sentence("15: the sum; at most 64", EdgeMeasuresTest::sums);
        check.sentence("18: the lesser of a and the operand's", EdgeMeasuresTest::lesser);
        check.sentence("19: the greater of b's and c's", EdgeMeasuresTest::greater);
        check.sentence("THE WORK: 8, 20, 21: 1 more than a's; 17, 18: 1 more than b's", EdgeMeasuresTest::workOfOne);
        check.sentence("9 .. 13, 16: 1 + a's + the BOUND of a times b's", EdgeMeasuresTest::workOfPairs);
        check.sentence("14: 8 times that", EdgeMeasuresTest::workOfTo);
        check.sentence("15: 1 + a's + b's", EdgeMeasuresTest::workOfOr);
        check.sentence("19: 1 + those of all three", EdgeMeasuresTest::workOfIf);
        check.sentence("It must be at most 2000", EdgeMeasuresTest::mostWork);
        check.sentence("The LEVEL is 1 for 0 .. 7", EdgeMeasuresTest::leaves);
        check.sentence("else one more than the greatest operand's", EdgeMeasuresTest::greatestLevel);
        check.sentence("at most 8", EdgeMeasuresTest::mostLevels);
        check.end();
    }

    private static void fixedBounds(Check check) {
        for (int kind = 0; kind <= 7; kind++) {
            Build build = new Build("a".repeat(24));
            check.due("bound of kind " + kind, build.x.bound(build.x.node(kind, 3, 0, 0)), kind == 7 ? 8 : 1);
        }
        for (int kind : new int[] {20, 21}) {
            for (int bound : new int[] {1, 8, 64}) {
                Build build = new Build("");
                check.due("bound of " + kind, build.x.bound(build.x.node(kind, build.ofBound(bound), 0, 0)), 1);
            }
        }
    }

    private static void boundsOfOne(Check check) {
        for (int bound : new int[] {1, 2, 7, 8, 9, 63, 64}) {
            Build build = new Build("");
            check.due("bound of GO", build.x.bound(build.go(build.ofBound(bound))), bound);
            build = new Build("");
            check.due("bound of SET", build.x.bound(build.set(3, build.ofBound(bound))), bound);
        }
    }

    /** A node of two operands with these BOUNDS has the BOUND due, or is refused if that is above 64. */
    private static void pair(Check check, int kind, int a, int b, int due) {
        Build build = new Build("");
        int left = build.ofBound(a);
        int right = build.ofBound(b);
        check.due("bound of the left operand", build.x.bound(left), a);
        check.due("bound of the right operand", build.x.bound(right), b);
        int made = build.x.node(kind, left, right, 0);
        String what = "kind " + kind + " of the BOUNDS " + a + " and " + b;
        if (due <= 64) {
            check.due(what, build.x.bound(made), due);
        } else {
            check.refused(what, made);
            check.due("the operands are used", build.x.used(left) || build.x.used(right), false);
        }
    }

    private static void products(Check check) {
        for (int kind : PRODUCTS) {
            pair(check, kind, 1, 1, 1);
            pair(check, kind, 1, 64, 64);
            pair(check, kind, 64, 1, 64);
            pair(check, kind, 8, 8, 64);
            pair(check, kind, 7, 9, 63);
            pair(check, kind, 4, 16, 64);
            pair(check, kind, 5, 13, 65);
            pair(check, kind, 13, 5, 65);
            pair(check, kind, 2, 33, 66);
            pair(check, kind, 2, 64, 128);
            pair(check, kind, 64, 64, 4096);
        }
    }

    private static void eightTimes(Check check) {
        pair(check, 14, 1, 1, 8);
        pair(check, 14, 7, 1, 56);
        pair(check, 14, 1, 8, 64);
        pair(check, 14, 8, 1, 64);
        pair(check, 14, 2, 4, 64);
        pair(check, 14, 1, 9, 72);
        pair(check, 14, 9, 1, 72);
        pair(check, 14, 3, 3, 72);
        pair(check, 14, 64, 64, 32768);
    }

    private static void sums(Check check) {
        pair(check, 15, 1, 1, 2);
        pair(check, 15, 32, 32, 64);
        pair(check, 15, 63, 1, 64);
        pair(check, 15, 1, 63, 64);
        pair(check, 15, 64, 1, 65);
        pair(check, 15, 1, 64, 65);
        pair(check, 15, 32, 33, 65);
        pair(check, 15, 64, 64, 128);
    }

    private static void lesser(Check check) {
        for (int a : new int[] {1, 2, 7, 8}) {
            for (int bound : new int[] {1, 2, 7, 8, 9, 64}) {
                Build build = new Build("");
                check.due("bound of FIRST " + a + " of the BOUND " + bound,
                    build.x.bound(build.first(a, build.ofBound(bound))), Math.min(a, bound));
            }
        }
    }

    private static void greater(Check check) {
        int[][] bounds = {{1, 1, 1, 1}, {64, 1, 1, 1}, {1, 64, 1, 64}, {1, 1, 64, 64}, {64, 63, 64, 64},
            {64, 64, 63, 64}, {64, 64, 64, 64}, {8, 2, 3, 3}, {8, 3, 2, 3}};
        for (int[] row : bounds) {
            Build build = new Build("");
            int made = build.iff(build.ofBound(row[0]), build.ofBound(row[1]), build.ofBound(row[2]));
            check.due("bound of IF", build.x.bound(made), row[3]);
        }
    }

    /** The two recipes differ by 1 in the WORK alone: 2000, which is taken, and what is beyond, which is not. */
    private static void limit(Check check, String what, ToIntFunction<Build> last, ToIntFunction<Build> beyond) {
        check.taken(what + ", the last WORK", last.applyAsInt(new Build("")));
        Build build = new Build("");
        check.refused(what + ", the first WORK beyond", beyond.applyAsInt(build));
        int made = build.x.count(0);
        check.due("its operands were made", made > 30 && made < 60, true);
        check.due("its last operand is used", build.x.used(made - 1), false);
    }

    private static void workOfOne(Check check) {
        for (int kind : new int[] {8, 20, 21}) {
            limit(check, "kind " + kind, build -> build.x.node(kind, build.heavy(1999), 0, 0),
                build -> build.x.node(kind, build.heavy(2000), 0, 0));
        }
        for (int kind : new int[] {17, 18}) {
            limit(check, "kind " + kind, build -> build.x.node(kind, 1, build.heavy(1999), 0),
                build -> build.x.node(kind, 1, build.heavy(2000), 0));
        }
    }

    private static void workOfPairs(Check check) {
        for (int kind : PRODUCTS) {
            limit(check, "kind " + kind + ", a heavy",
                build -> build.x.node(kind, build.heavy(1998), build.ofWork(1), 0),
                build -> build.x.node(kind, build.heavy(1999), build.ofWork(1), 0));
            limit(check, "kind " + kind + ", b heavy",
                build -> build.x.node(kind, build.ofWork(1), build.heavy(1998), 0),
                build -> build.x.node(kind, build.ofWork(1), build.heavy(1999), 0));
            limit(check, "kind " + kind + ", a wide", build -> wide(build, kind, 6), build -> wide(build, kind, 7));
        }
    }

    /** a with the BOUND 8 and the WORK 9 + spare, b with the WORK 248: the WORK is 1 + 9 + spare + 8 * 248. */
    private static int wide(Build build, int kind, int spare) {
        int a = build.then(build.ofWork(spare), build.seek(0));
        return build.x.node(kind, a, build.halfHeavy(248), 0);
    }

    private static void workOfTo(Check check) {
        limit(check, "TO, a heavy", build -> build.to(build.halfHeavy(248), build.ofWork(1)),
            build -> build.to(build.halfHeavy(249), build.ofWork(1)));
        limit(check, "TO, b heavy", build -> build.to(build.ofWork(1), build.halfHeavy(248)),
            build -> build.to(build.ofWork(1), build.halfHeavy(249)));
        // 8 * (1 + 8 + 8 * 30) is 1992, and with 31 it is 2056.
        Build build = new Build("");
        check.taken("TO, a wide, b 30", build.to(build.seek(0), build.ofWork(30)));
        build = new Build("");
        check.refused("TO, a wide, b 31", build.to(build.seek(0), build.ofWork(31)));
    }

    private static void workOfOr(Check check) {
        limit(check, "OR, a heavy", build -> build.or(build.heavy(1998), build.ofWork(1)),
            build -> build.or(build.heavy(1999), build.ofWork(1)));
        limit(check, "OR, b heavy", build -> build.or(build.ofWork(1), build.heavy(1998)),
            build -> build.or(build.ofWork(1), build.heavy(1999)));
    }

    private static void workOfIf(Check check) {
        limit(check, "IF, a heavy", build -> build.iff(build.heavy(1997), build.ofWork(1), build.ofWork(1)),
            build -> build.iff(build.heavy(1998), build.ofWork(1), build.ofWork(1)));
        limit(check, "IF, b heavy", build -> build.iff(build.ofWork(1), build.heavy(1997), build.ofWork(1)),
            build -> build.iff(build.ofWork(1), build.heavy(1998), build.ofWork(1)));
        limit(check, "IF, c heavy", build -> build.iff(build.ofWork(1), build.ofWork(1), build.heavy(1997)),
            build -> build.iff(build.ofWork(1), build.ofWork(1), build.heavy(1998)));
    }

    /** All that may be made can be evaluated, even with the greatest WORK. */
    private static void mostWork(Check check) {
        Build build = new Build("a".repeat(24));
        check.due("evaluate of the WORK 2000", build.evaluated(build.heavy(2000)), "0@0");
        for (int work : new int[] {1997, 1998, 1999, 2000}) {
            check.taken("WORK " + work, new Build("").heavy(work));
        }
        check.refused("WORK 2001", new Build("").heavy(2001));
        // 1 + 73 + 64 * (1 + 1 + 73 + 64 * 1): far beyond, and with a BOUND that is not.
        build = new Build("");
        int most = build.most(build.add(build.sixtyFour(), build.number(1)));
        check.refused("THEN of the WORK 8970", build.then(build.sixtyFour(), most));
    }

    private static void leaves(Check check) {
        for (int kind = 0; kind <= 7; kind++) {
            GoalScanner x = new GoalScanner();
            check.due("level of kind " + kind, x.level(x.node(kind, 3, 0, 0)), 1);
        }
    }

    /** A node of the kind whose operands have the LEVELS. */
    private static int node(Build build, int kind, int a, int b, int c) {
        return switch (kind) {
            case 17, 18 -> build.x.node(kind, 1, build.ofLevel(b), 0);
            case 19 -> build.iff(build.ofLevel(a), build.ofLevel(b), build.ofLevel(c));
            case 8, 20, 21 -> build.x.node(kind, build.ofLevel(a), 0, 0);
            default -> build.x.node(kind, build.ofLevel(a), build.ofLevel(b), 0);
        };
    }

    private static void greatestLevel(Check check) {
        for (int level = 1; level <= 7; level++) {
            for (int kind = 8; kind <= 21; kind++) {
                Build build = new Build("");
                check.due("level of kind " + kind, build.x.level(node(build, kind, level, level, level)), level + 1);
            }
            for (int kind = 9; kind <= 16; kind++) {
                Build build = new Build("");
                int left = node(build, kind, level, 1, 1);
                int right = node(build, kind, 1, level, 1);
                check.due("level of kind " + kind + ", a deep", build.x.level(left), level + 1);
                check.due("level of kind " + kind + ", b deep", build.x.level(right), level + 1);
            }
            Build build = new Build("");
            check.due("level of IF, a deep", build.x.level(node(build, 19, level, 1, 1)), level + 1);
            check.due("level of IF, b deep", build.x.level(node(build, 19, 1, level, 1)), level + 1);
            check.due("level of IF, c deep", build.x.level(node(build, 19, 1, 1, level)), level + 1);
        }
    }

    private static void mostLevels(Check check) {
        for (int kind = 8; kind <= 21; kind++) {
            Build build = new Build("");
            check.due("level of kind " + kind, build.x.level(node(build, kind, 7, 7, 7)), 8);
            build = new Build("");
            check.refused("kind " + kind + " at LEVEL 9", node(build, kind, 8, 8, 8));
        }
        for (int kind = 9; kind <= 16; kind++) {
            Build build = new Build("");
            check.refused("kind " + kind + " at LEVEL 9 by a", node(build, kind, 8, 1, 1));
            check.refused("kind " + kind + " at LEVEL 9 by b", node(build, kind, 1, 8, 1));
        }
        Build build = new Build("");
        check.refused("IF at LEVEL 9 by a", node(build, 19, 8, 1, 1));
        check.refused("IF at LEVEL 9 by b", node(build, 19, 1, 8, 1));
        check.refused("IF at LEVEL 9 by c", node(build, 19, 1, 1, 8));
        check.due("evaluate at LEVEL 8", build.evaluated(7), "0@0");
    }
}
