/** Promise 6: what the kinds 9 .. 16 give. */
final class Promise06PairKindsTest {
    private static final int MIN = Integer.MIN_VALUE;
    private static final int MAX = Integer.MAX_VALUE;

    public static void main(String[] args) {
        Check check = new Check();
        arithmetic(check);
        wrapping(check);
        comparing(check);
        statesOfPairs(check);
        to(check);
        toAtTheEdges(check);
        or(check);
        then(check);
        check.end();
    }

    private static void arithmetic(Check check) {
        Build build = new Build("");
        check.due("ADD", build.evaluated(build.add(build.either(1, 2), build.either(10, 20))), "11@0 21@0 12@0 22@0");
        check.due("SUB", build.evaluated(build.sub(build.either(1, 2), build.either(10, 20))), "-9@0 -19@0 -8@0 -18@0");
        check.due("MUL", build.evaluated(build.mul(build.either(3, -4), build.either(5, 7))), "15@0 21@0 -20@0 -28@0");
        check.due("ADD without x", build.evaluated(build.add(build.nothing(), build.number(1))), "");
        check.due("ADD without y", build.evaluated(build.add(build.number(1), build.nothing())), "");
    }

    private static void wrapping(Check check) {
        Build build = new Build("");
        check.due("ADD", build.evaluated(build.add(build.number(MAX), build.number(1))), MIN + "@0");
        check.due("SUB", build.evaluated(build.sub(build.number(MIN), build.number(1))), MAX + "@0");
        check.due("MUL", build.evaluated(build.mul(build.number(65536), build.number(65537))), "65536@0");
        check.due("MUL", build.evaluated(build.mul(build.number(MIN), build.number(-1))), MIN + "@0");
    }

    private static void comparing(Check check) {
        Build build = new Build("");
        check.due("LESS", build.evaluated(build.less(build.either(1, 3), build.series(0, 4))), "2@0 3@0 4@0 4@0");
        check.due("LESS of equals", build.evaluated(build.less(build.number(2), build.number(2))), "");
        check.due("LESS far apart", build.evaluated(build.less(build.number(MIN), build.number(MAX))), MAX + "@0");
        check.due("LESS the other way", build.evaluated(build.less(build.number(MAX), build.number(MIN))), "");
        check.due("SAME", build.evaluated(build.same(build.either(1, 3), build.series(0, 4))), "1@0 3@0");
        check.due("SAME of others", build.evaluated(build.same(build.number(1), build.number(2))), "");
        check.due("SAME far out", build.evaluated(build.same(build.number(MIN), build.number(MIN))), MIN + "@0");
        check.due("SAME of thousands", build.evaluated(build.same(build.number(1000), build.number(1000))), "1000@0");
    }

    private static void statesOfPairs(Check check) {
        String[] due = {"195@2/0=97/1=98", "-1@2/0=97/1=98", "9506@2/0=97/1=98", "98@2/0=97/1=98"};
        for (int kind = 9; kind <= 12; kind++) {
            Build build = new Build("abc");
            int x = build.set(0, build.one(Build.ALL));
            int y = build.set(1, build.one(Build.ALL));
            check.due("kind " + kind, build.evaluated(build.x.node(kind, x, y, 0)), due[kind - 9]);
        }
        Build build = new Build("aa");
        int same = build.same(build.set(2, build.one(Build.ALL)), build.one(Build.ALL));
        check.due("SAME", build.evaluated(same), "97@2/2=97");
        // The second x must find the STATE as it was before the first x's y changed it.
        build = new Build("ab");
        int pairs = build.add(build.either(100, 200), build.set(3, build.add(build.variable(3), build.one(Build.ALL))));
        check.due("ADD takes back", build.evaluated(pairs), "197@1/3=97 297@1/3=97");
    }

    private static void to(Check check) {
        Build build = new Build("");
        check.due("TO", build.evaluated(build.series(-1, 2)), "-1@0 0@0 1@0 2@0");
        check.due("TO itself", build.evaluated(build.series(5, 5)), "5@0");
        check.due("TO a lesser one", build.evaluated(build.series(5, 4)), "");
        check.due("TO 8 of 8", build.evaluated(build.series(1, 8)), "1@0 2@0 3@0 4@0 5@0 6@0 7@0 8@0");
        check.due("TO 8 of 9", build.evaluated(build.series(1, 9)), "1@0 2@0 3@0 4@0 5@0 6@0 7@0 8@0");
        int pairs = build.to(build.either(1, 3), build.either(2, 4));
        check.due("TO of pairs", build.evaluated(pairs), "1@0 2@0 1@0 2@0 3@0 4@0 3@0 4@0");
        build = new Build("13");
        int read = build.to(build.set(0, build.one(Build.ALL)), build.set(1, build.one(Build.ALL)));
        check.due("TO has y's STATE", build.evaluated(read), "49@2/0=49/1=51 50@2/0=49/1=51 51@2/0=49/1=51");
    }

    private static void toAtTheEdges(Check check) {
        Build build = new Build("");
        check.due("TO the greatest", build.evaluated(build.series(MAX - 1, MAX)), (MAX - 1) + "@0 " + MAX + "@0");
        check.due("TO the greatest alone", build.evaluated(build.series(MAX, MAX)), MAX + "@0");
        check.due("TO the least alone", build.evaluated(build.series(MIN, MIN)), MIN + "@0");
        check.due("TO from the greatest to the least", build.evaluated(build.series(MAX, MIN)), "");
        check.due("TO over all ints", build.x.evaluate(build.series(MIN, MAX)), 8);
        check.due("its last", build.x.result(7), MIN + 7);
    }

    private static void or(Check check) {
        Build build = new Build("ab");
        check.due("OR", build.evaluated(build.or(build.series(1, 2), build.series(7, 8))), "1@0 2@0 7@0 8@0");
        int states = build.or(build.set(0, build.one(Build.ALL)), build.add(build.variable(0), build.place()));
        check.due("OR takes back", build.evaluated(states), "97@1/0=97 0@0");
        check.due("OR without a", build.evaluated(build.or(build.nothing(), build.number(4))), "4@0");
        check.due("OR without b", build.evaluated(build.or(build.number(4), build.nothing())), "4@0");
    }

    private static void then(Check check) {
        Build build = new Build("abc");
        int each = build.then(build.go(build.seek(Build.LETTERS)), build.or(build.one(Build.ALL), build.place()));
        check.due("THEN", build.evaluated(each), "97@1 0@0 98@2 1@1 99@3 2@2");
        check.due("THEN without a", build.evaluated(build.then(build.nothing(), build.number(4))), "");
        check.due("THEN without b", build.evaluated(build.then(build.number(4), build.nothing())), "");
        int some = build.then(build.go(build.series(0, 3)), build.one(Build.just('b')));
        check.due("THEN where b fails at times", build.evaluated(some), "98@2");
    }
}
