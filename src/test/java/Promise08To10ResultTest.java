/** Promises 8, 9 and 10: result, place and variable look at one RESULT. */
final class Promise08To10ResultTest {
    private static final int[] NO_RESULT = {2, 3, 64, -1, Integer.MIN_VALUE, Integer.MAX_VALUE, 1 << 30};

    public static void main(String[] args) {
        Check check = new Check();
        Build build = new Build("ab");
        int first = build.set(0, build.number(-7));
        int second = build.set(3, build.mul(build.one(Build.ALL), build.number(-1)));
        build.x.evaluate(build.or(first, second));
        long[] ints = {-7, -97};
        int[] places = {0, 1};
        long[][] variables = {{-7, 0, 0, 0}, {0, 0, 0, -97}};
        for (int k = 0; k < 2; k++) {
            check.due("result(" + k + ")", build.x.result(k), ints[k]);
            check.due("place(" + k + ")", build.x.place(k), places[k]);
            for (int v = 0; v < 4; v++) {
                check.due("variable(" + k + ", " + v + ")", build.x.variable(k, v), variables[k][v]);
            }
        }
        noSuch(check, build.x);
        minusOne(check);
        fewerThanBefore(check, build);
        check.end();
    }

    private static void noSuch(Check check, GoalScanner x) {
        for (int k : NO_RESULT) {
            check.due("result(" + k + ")", x.result(k), GoalScanner.NONE);
            check.refused("place(" + k + ")", x.place(k));
            check.due("variable(" + k + ", 0)", x.variable(k, 0), GoalScanner.NONE);
        }
        for (int v : new int[] {-1, 4, Integer.MIN_VALUE, Integer.MAX_VALUE}) {
            check.due("variable(0, " + v + ")", x.variable(0, v), GoalScanner.NONE);
            check.due("variable(1, " + v + ")", x.variable(1, v), GoalScanner.NONE);
            check.due("variable(2, " + v + ")", x.variable(2, v), GoalScanner.NONE);
        }
    }

    private static void minusOne(Check check) {
        Build build = new Build("");
        build.x.evaluate(build.set(1, build.number(-1)));
        check.due("result(0)", build.x.result(0), -1);
        check.due("variable(0, 1)", build.x.variable(0, 1), -1);
    }

    private static void fewerThanBefore(Check check, Build build) {
        build.x.attempt(build.number(3));
        check.due("result(0)", build.x.result(0), 3);
        check.due("result(1)", build.x.result(1), GoalScanner.NONE);
        check.refused("place(1)", build.x.place(1));
        check.due("variable(1, 3)", build.x.variable(1, 3), GoalScanner.NONE);
    }
}
