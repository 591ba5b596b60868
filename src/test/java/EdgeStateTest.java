/** The boundary cases of a STATE: its place, its variables, and the arithmetic that wraps. */
final class EdgeStateTest {
    private static final int MIN = Integer.MIN_VALUE;
    private static final int MAX = Integer.MAX_VALUE;

    public static void main(String[] args) {
        Check check = new Check();
        check.sentence("a place (0 up to the text's length)", EdgeStateTest::places);
        check.sentence("four variables 0 .. 3", EdgeStateTest::variables);
        check.sentence("which hold ints", EdgeStateTest::variablesHoldInts);
        check.sentence("All arithmetic wraps at 32 bits: ADD", EdgeStateTest::addWraps);
        check.sentence("All arithmetic wraps at 32 bits: SUB", EdgeStateTest::subWraps);
        check.sentence("All arithmetic wraps at 32 bits: MUL", EdgeStateTest::mulWraps);
        check.sentence("All arithmetic wraps at 32 bits: what uses it sees an int", EdgeStateTest::wrappedInside);
        check.sentence("EVALUATION begins in the STATE with place 0 and all variables 0", EdgeStateTest::beginning);
        check.end();
    }

    private static void places(Check check) {
        for (int length : new int[] {0, 1, 23, 24}) {
            for (int p : new int[] {-1, 0, length - 1, length, length + 1, MIN, MAX}) {
                Build build = new Build("a".repeat(length));
                boolean there = p >= 0 && p <= length;
                check.due("PLACE behind GO " + p + " of " + length,
                    build.evaluated(build.at(p, build.place())), there ? p + "@" + p : "");
            }
        }
        Build build = new Build("ab");
        int reads = build.then(build.one(Build.ALL), build.one(Build.ALL));
        check.due("reading up to the end", build.evaluated(reads), "98@2");
        check.due("reading beyond it", build.evaluated(build.then(reads, build.one(Build.ALL))), "");
    }

    private static void variables(Check check) {
        for (int v = 0; v <= 3; v++) {
            Build build = new Build("");
            check.due("SET " + v, build.evaluated(build.set(v, build.number(7))), "7@0/" + v + "=7");
            for (int other = 0; other <= 3; other++) {
                int seen = build.then(build.set(v, build.number(7)), build.variable(other));
                check.due("VARIABLE " + other, build.evaluated(seen), (other == v ? 7 : 0) + "@0/" + v + "=7");
            }
        }
        Build build = new Build("");
        int one = build.then(build.set(0, build.number(1)), build.set(1, build.number(2)));
        int all = build.then(one, build.then(build.set(2, build.number(3)), build.set(3, build.number(4))));
        check.due("all four", build.evaluated(all), "4@0/0=1/1=2/2=3/3=4");
        for (int v : new int[] {-1, 4, MIN, MAX}) {
            check.refused("VARIABLE " + v, build.variable(v));
            check.refused("SET " + v, build.set(v, all));
        }
    }

    private static void variablesHoldInts(Check check) {
        for (int value : new int[] {MIN, MIN + 1, -1, 0, 1, MAX - 1, MAX}) {
            for (int v = 0; v <= 3; v++) {
                Build build = new Build("");
                int read = build.then(build.set(v, build.number(value)), build.variable(v));
                check.due("evaluate", build.x.evaluate(read), 1);
                check.due("result(0)", build.x.result(0), value);
                check.due("variable(0, " + v + ")", build.x.variable(0, v), value);
            }
        }
    }

    private static void pair(Check check, int kind, int x, int y, int due) {
        Build build = new Build("");
        int node = build.x.node(kind, build.number(x), build.number(y), 0);
        check.due("kind " + kind + " of " + x + " and " + y, build.evaluated(node), due + "@0");
        check.due("its variable", build.evaluated(build.then(build.set(1, node), build.variable(1))),
            due + "@0" + (due == 0 ? "" : "/1=" + due));
    }

    private static void addWraps(Check check) {
        pair(check, 9, MAX - 1, 1, MAX);
        pair(check, 9, MAX, 1, MIN);
        pair(check, 9, 1, MAX, MIN);
        pair(check, 9, MAX, MAX, -2);
        pair(check, 9, MIN + 1, -1, MIN);
        pair(check, 9, MIN, -1, MAX);
        pair(check, 9, -1, MIN, MAX);
        pair(check, 9, MIN, MIN, 0);
        pair(check, 9, MIN, MAX, -1);
    }

    private static void subWraps(Check check) {
        pair(check, 10, MAX - 1, -1, MAX);
        pair(check, 10, MAX, -1, MIN);
        pair(check, 10, MAX, MIN, -1);
        pair(check, 10, MIN + 1, 1, MIN);
        pair(check, 10, MIN, 1, MAX);
        pair(check, 10, MIN, MAX, 1);
        pair(check, 10, -1, MIN, MAX);
        pair(check, 10, 0, MIN, MIN);
        pair(check, 10, MIN, MIN, 0);
    }

    private static void mulWraps(Check check) {
        pair(check, 11, 46340, 46340, 2147395600);
        pair(check, 11, 46341, 46341, -2147479015);
        pair(check, 11, 46340, -46340, -2147395600);
        pair(check, 11, 46341, -46341, 2147479015);
        pair(check, 11, 32768, -65536, MIN);
        pair(check, 11, 32768, 65536, MIN);
        pair(check, 11, 65536, 65536, 0);
        pair(check, 11, MIN, -1, MIN);
        pair(check, 11, -1, MIN, MIN);
        pair(check, 11, MIN, 2, 0);
        pair(check, 11, MAX, 2, -2);
        pair(check, 11, MAX, MAX, 1);
        pair(check, 11, MIN, MIN, 0);
    }

    /** A number that was kept wider than an int would show here, even if it is cut at the end. */
    private static void wrappedInside(Check check) {
        Build build = new Build("ab");
        int above = build.less(build.add(build.number(MAX), build.number(1)), build.number(0));
        check.due("LESS behind ADD", build.evaluated(above), "0@0");
        int below = build.less(build.number(0), build.sub(build.number(MIN), build.number(1)));
        check.due("LESS behind SUB", build.evaluated(below), MAX + "@0");
        int same = build.same(build.mul(build.number(65536), build.number(65536)), build.number(0));
        check.due("SAME behind MUL", build.evaluated(same), "0@0");
        int go = build.go(build.add(build.number(MAX), build.number(MIN + 3)));
        check.due("GO behind ADD", build.evaluated(go), "2@2");
        int far = build.go(build.sub(build.number(MIN), build.number(MAX)));
        check.due("GO behind SUB", build.evaluated(far), "1@1");
        int to = build.to(build.add(build.number(MAX), build.number(1)), build.number(MIN + 1));
        check.due("TO behind ADD", build.evaluated(to), MIN + "@0 " + (MIN + 1) + "@0");
        build.x.clear();
        int most = build.most(build.or(build.add(build.number(MAX), build.number(1)), build.number(5)));
        check.due("MOST behind ADD", build.evaluated(most), "5@0");
    }

    private static void beginning(Check check) {
        Build build = new Build("ab");
        int moves = build.then(build.set(0, build.one(Build.ALL)), build.set(3, build.one(Build.ALL)));
        int looks = build.add(build.place(), build.add(build.variable(0), build.variable(3)));
        for (int round = 0; round < 3; round++) {
            check.due("what moves and sets", build.evaluated(moves), "98@2/0=97/3=98");
            check.due("what looks", build.evaluated(looks), "0@0");
            check.due("attempt of what moves", build.x.attempt(moves), 1);
            check.due("attempt of what looks", build.x.attempt(looks), 1);
            check.due("its RESULT", build.results(), "0@0");
        }
        for (int v = 0; v <= 3; v++) {
            check.due("VARIABLE " + v, build.evaluated(build.variable(v)), "0@0");
        }
    }
}
