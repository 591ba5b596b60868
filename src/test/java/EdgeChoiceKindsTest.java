/** The boundary cases of the kinds 17 .. 21. */
final class EdgeChoiceKindsTest {
    private static final int MIN = Integer.MIN_VALUE;
    private static final int MAX = Integer.MAX_VALUE;

    public static void main(String[] args) {
        Check check = new Check();
        check.sentence("17 SET variable a to b: for each RESULT of b", EdgeChoiceKindsTest::set);
        check.sentence("18 FIRST a of b (a 1 .. 8): the first a RESULTS", EdgeChoiceKindsTest::first);
        check.sentence("18 FIRST: (all if there are fewer)", EdgeChoiceKindsTest::firstOfFewer);
        check.sentence("19 IF: if a has a RESULT in s: b in the STATE of a's first one", EdgeChoiceKindsTest::ifSo);
        check.sentence("19 IF: else those of c in s", EdgeChoiceKindsTest::ifNot);
        check.sentence("20 NOT a: if a has none: 0, stays; else none", EdgeChoiceKindsTest::not);
        check.sentence("21 MOST: the one with the greatest int", EdgeChoiceKindsTest::most);
        check.sentence("21 MOST: of equal ones the first", EdgeChoiceKindsTest::mostOfEquals);
        check.sentence("21 MOST: else none", EdgeChoiceKindsTest::mostOfNone);
        check.end();
    }

    private static void set(Check check) {
        Build build = new Build("ab");
        check.due("SET of none", build.evaluated(build.set(0, build.nothing())), "");
        check.due("SET of one", build.evaluated(build.set(3, build.run(Build.ALL))), "2@2/3=2");
        int again = build.then(build.set(3, build.number(MAX)), build.set(3, build.number(MIN)));
        check.due("SET anew", build.evaluated(again), MIN + "@0/3=" + MIN);
        int zero = build.then(build.set(0, build.number(9)), build.set(0, build.number(0)));
        check.due("SET to 0", build.evaluated(zero), "0@0");
        Build full = new Build("");
        full.x.evaluate(full.set(2, full.upTo63()));
        check.due("SET of 64", full.x.count(2), 64);
        for (int k = 0; k < 64; k++) {
            check.due("variable(" + k + ", 2)", full.x.variable(k, 2), k);
            check.due("variable(" + k + ", 1)", full.x.variable(k, 1), 0);
        }
    }

    private static void first(Check check) {
        for (int a = 1; a <= 8; a++) {
            Build build = new Build("");
            check.due("FIRST " + a + " of 64", build.x.evaluate(build.first(a, build.upTo63())), a);
            check.due("the last of them", build.x.result(a - 1), a - 1);
            check.due("none behind it", build.x.result(a), GoalScanner.NONE);
        }
        for (int a : new int[] {0, 9, -1, 64, MIN, MAX}) {
            Build build = new Build("");
            check.refused("FIRST " + a, build.first(a, build.upTo63()));
        }
    }

    private static void firstOfFewer(Check check) {
        for (int a : new int[] {1, 2, 7, 8}) {
            for (int there : new int[] {0, 1, a - 1, a}) {
                Build build = new Build("");
                int node = build.first(a, build.series(1, there));
                check.due("FIRST " + a + " of " + there, build.x.evaluate(node), there);
                check.due("the last of them", build.x.result(there - 1), there == 0 ? GoalScanner.NONE : there);
            }
        }
        Build build = new Build("");
        check.due("FIRST 7 of 8", build.x.evaluate(build.first(7, build.series(1, 8))), 7);
    }

    private static void ifSo(Check check) {
        Build build = new Build("ab");
        int one = build.iff(build.set(0, build.one(Build.ALL)), build.place(), build.number(9));
        check.due("IF of one", build.evaluated(one), "1@1/0=97");
        int many = build.iff(build.go(build.series(1, 2)), build.place(), build.number(9));
        check.due("IF of some", build.evaluated(many), "1@1");
        int zero = build.iff(build.number(0), build.number(1), build.number(2));
        check.due("IF of the RESULT 0", build.evaluated(zero), "1@0");
        int without = build.iff(build.one(Build.ALL), build.nothing(), build.number(9));
        check.due("IF without b", build.evaluated(without), "");
        // b fails behind a's first RESULT, and would hold behind its second.
        int second = build.iff(build.go(build.either(2, 0)), build.one(Build.ALL), build.number(9));
        check.due("IF goes not back to a's second", build.evaluated(second), "");
        Build full = new Build("");
        full.x.evaluate(full.iff(full.upTo63(), full.upTo63(), full.upTo63()));
        check.due("IF of 64", full.x.count(2), 64);
        check.due("the last of them", full.x.result(63), 63);
    }

    private static void ifNot(Check check) {
        Build build = new Build("ab");
        int none = build.iff(build.one(Build.DIGITS), build.number(9), build.or(build.one(Build.ALL), build.place()));
        check.due("IF of none", build.evaluated(none), "97@1 0@0");
        int without = build.iff(build.nothing(), build.number(9), build.nothing());
        check.due("IF without c", build.evaluated(without), "");
        int undone = build.iff(build.then(build.set(1, build.run(Build.ALL)), build.nothing()), build.number(9),
            build.add(build.place(), build.variable(1)));
        check.due("IF: c in s", build.evaluated(undone), "0@0");
        Build full = new Build("");
        full.x.evaluate(full.iff(full.nothing(), full.number(9), full.upTo63()));
        check.due("IF not, with 64", full.x.count(2), 64);
        check.due("the last of them", full.x.result(63), 63);
    }

    private static void not(Check check) {
        Build build = new Build("ab");
        check.due("NOT of none", build.evaluated(build.not(build.nothing())), "0@0");
        int moved = build.then(build.set(3, build.one(Build.ALL)), build.not(build.nothing()));
        check.due("NOT of none stays", build.evaluated(moved), "0@1/3=97");
        check.due("NOT of the RESULT 0", build.evaluated(build.not(build.number(0))), "");
        check.due("NOT of NOT of one", build.evaluated(build.not(build.not(build.number(5)))), "0@0");
        check.due("NOT at the end", build.evaluated(build.at(2, build.not(build.one(Build.ALL)))), "0@2");
        build.x.clear();
        check.due("NOT of 64", build.evaluated(build.not(build.upTo63())), "");
    }

    private static void most(Check check) {
        Build build = new Build("");
        check.due("MOST of one", build.evaluated(build.most(build.number(MIN))), MIN + "@0");
        check.due("MOST, the first", build.evaluated(build.most(build.either(2, 1))), "2@0");
        check.due("MOST, the last", build.evaluated(build.most(build.either(1, 2))), "2@0");
        check.due("MOST below 0", build.evaluated(build.most(build.either(-2, -1))), "-1@0");
        // The difference of these wraps around.
        check.due("MOST far apart", build.evaluated(build.most(build.either(MIN, MAX))), MAX + "@0");
        check.due("MOST far apart, turned", build.evaluated(build.most(build.either(MAX, MIN))), MAX + "@0");
        check.due("MOST of near ones", build.evaluated(build.most(build.either(MIN, MIN + 1))), (MIN + 1) + "@0");
        build.x.clear();
        check.due("MOST of 64", build.evaluated(build.most(build.upTo63())), "63@0");
        int falling = build.sub(build.number(0), build.upTo63());
        check.due("MOST of 64 falling ones", build.evaluated(build.most(falling)), "0@0");
    }

    private static void mostOfEquals(Check check) {
        Build build = new Build("abc");
        int two = build.or(build.set(0, build.number(9)), build.set(1, build.number(9)));
        check.due("MOST of two equal ones", build.evaluated(build.most(two)), "9@0/0=9");
        int later = build.or(build.number(8), build.or(build.set(2, build.number(9)), build.set(3, build.number(9))));
        check.due("MOST of later equal ones", build.evaluated(build.most(later)), "9@0/2=9");
        int places = build.then(build.go(build.seek(Build.ALL)), build.number(MIN));
        check.due("MOST of three of the least", build.evaluated(build.most(places)), MIN + "@0");
        int backwards = build.then(build.go(build.sub(build.number(2), build.seek(Build.ALL))), build.number(MAX));
        check.due("MOST of three of the greatest", build.evaluated(build.most(backwards)), MAX + "@2");
    }

    private static void mostOfNone(Check check) {
        Build build = new Build("");
        check.due("MOST of none", build.evaluated(build.most(build.nothing())), "");
        check.due("MOST of nothing sought", build.evaluated(build.most(build.seek(Build.ALL))), "");
        int beside = build.or(build.number(3), build.most(build.nothing()));
        check.due("MOST of none beside another", build.evaluated(beside), "3@0");
    }
}
