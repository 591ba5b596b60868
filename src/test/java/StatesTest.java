/**
 * The STATE of every RESULT, kind by kind: each node is evaluated in the STATE s with place 2 of the text "-+ab12c" and
 * the variables 11, 12, 13 and 14, so that a place or a variable that is lost or taken from elsewhere shows.
 */
final class StatesTest {
    private static final String S = "@2/0=11/1=12/2=13/3=14";

    public static void main(String[] args) {
        Check check = new Check();
        check.sentence("a row of RESULTS, each an int and a STATE", StatesTest::rowOfResults);
        check.sentence("\"stays\": the RESULT's STATE is s", StatesTest::stays);
        check.sentence("a result made of others has the STATE of the last one that is named", StatesTest::lastNamed);
        check.sentence("4 ONE: its number, place p + 1", StatesTest::one);
        check.sentence("5 RUN: the place behind them", StatesTest::run);
        check.sentence("6 VALUE: the number read in decimal, the place behind those read", StatesTest::value);
        check.sentence("7 SEEK: each staying in s", StatesTest::seek);
        check.sentence("8 GO: that int, that RESULT's STATE with the place it says", StatesTest::go);
        check.sentence("9 .. 11: y's STATE", StatesTest::arithmetic);
        check.sentence("12, 13: y's int, y's STATE", StatesTest::comparing);
        check.sentence("14 TO: each with y's STATE", StatesTest::to);
        check.sentence("15 OR: a in s, then b in s", StatesTest::or);
        check.sentence("16 THEN: those of b in its STATE", StatesTest::then);
        check.sentence("17 SET: its int, its STATE with the variable a having that int", StatesTest::set);
        check.sentence("18 FIRST: the first RESULTS of b, as they are", StatesTest::first);
        check.sentence("19 IF: b in the STATE of a's first one; else c in s", StatesTest::choice);
        check.sentence("20 NOT: 0, stays", StatesTest::not);
        check.sentence("21 MOST: the one with the greatest int, as it is", StatesTest::most);
        check.end();
    }

    private static Build build() {
        return new Build("-+ab12c");
    }

    private static void gives(Check check, String what, Build build, int node, String due) {
        check.due(what, build.evaluated(build.inState(2, node)), due);
    }

    /** Reads a character into variable 0. */
    private static int readX(Build build) {
        return build.set(0, build.one(Build.ALL));
    }

    /** Reads a character into variable 1. */
    private static int readY(Build build) {
        return build.set(1, build.one(Build.ALL));
    }

    private static void rowOfResults(Check check) {
        Build build = build();
        int rows = build.or(readX(build), build.or(readY(build), build.number(5)));
        int node = build.inState(2, rows);
        check.due("evaluate", build.x.evaluate(node), 3);
        long[] ints = {'a', 'a', 5};
        int[] places = {3, 3, 2};
        long[][] variables = {{'a', 12, 13, 14}, {11, 'a', 13, 14}, {11, 12, 13, 14}};
        for (int k = 0; k < 3; k++) {
            check.due("result(" + k + ")", build.x.result(k), ints[k]);
            check.due("place(" + k + ")", build.x.place(k), places[k]);
            for (int v = 0; v <= 3; v++) {
                check.due("variable(" + k + ", " + v + ")", build.x.variable(k, v), variables[k][v]);
            }
        }
    }

    private static void stays(Check check) {
        for (int v = 0; v <= 3; v++) {
            Build build = build();
            gives(check, "VARIABLE " + v, build, build.variable(v), (11 + v) + S);
        }
        Build build = build();
        gives(check, "NUMBER", build, build.number(-9), "-9" + S);
        build = build();
        gives(check, "PLACE", build, build.place(), "2" + S);
        build = build();
        gives(check, "LENGTH", build, build.length(), "7" + S);
        build = build();
        gives(check, "SEEK", build, build.seek(Build.DIGITS), "4" + S + " 5" + S);
        build = build();
        gives(check, "NOT", build, build.not(build.one(Build.DIGITS)), "0" + S);
    }

    /** Each of the operands leaves its own mark: a reads into variable 0, b into variable 1, c into variable 2. */
    private static void lastNamed(Check check) {
        String both = "@4/0=97/1=98/2=13/3=14";
        int[] sums = {'a' + 'b', 'a' - 'b', 'a' * 'b', 'b'};
        for (int kind = 9; kind <= 12; kind++) {
            Build build = build();
            int node = build.x.node(kind, readX(build), readY(build), 0);
            gives(check, "kind " + kind, build, node, sums[kind - 9] + both);
        }
        Build build = build();
        gives(check, "THEN", build, build.then(readX(build), readY(build)), "98" + both);
        build = build();
        int read = build.set(2, build.one(Build.ALL));
        gives(check, "IF", build, build.iff(readX(build), readY(build), read), "98" + both);
        build = build();
        read = build.set(2, build.one(Build.ALL));
        gives(check, "IF not", build, build.iff(build.then(readX(build), build.nothing()), readY(build), read),
            "97@3/0=11/1=12/2=97/3=14");
    }

    private static void one(Check check) {
        Build build = build();
        gives(check, "ONE", build, build.one(Build.LETTERS), "97@3/0=11/1=12/2=13/3=14");
        build = build();
        gives(check, "ONE of just it", build, build.one(Build.just('a')), "97@3/0=11/1=12/2=13/3=14");
        build = build();
        gives(check, "ONE of another SORT", build, build.one(Build.DIGITS), "");
        build = build();
        gives(check, "ONE of the character before", build, build.one(Build.just('+')), "");
    }

    private static void run(Check check) {
        Build build = build();
        gives(check, "RUN", build, build.run(Build.LETTERS), "2@4/0=11/1=12/2=13/3=14");
        build = build();
        gives(check, "RUN up to the end", build, build.run(Build.LETTERS_OR_DIGITS), "5@7/0=11/1=12/2=13/3=14");
        build = build();
        gives(check, "RUN of what comes later", build, build.run(Build.DIGITS), "");
    }

    private static void value(Check check) {
        Build build = build();
        check.due("VALUE", build.evaluated(build.inState(4, build.value())), "12@6/0=11/1=12/2=13/3=14");
        build = build();
        check.due("VALUE of the last digit", build.evaluated(build.inState(5, build.value())),
            "2@6/0=11/1=12/2=13/3=14");
        build = build();
        gives(check, "VALUE before digits", build, build.value(), "");
        build = new Build("--0x907");
        gives(check, "VALUE 0", build, build.value(), "0@3/0=11/1=12/2=13/3=14");
        check.due("VALUE with a 0 inside", build.evaluated(build.inState(4, build.value())),
            "907@7/0=11/1=12/2=13/3=14");
    }

    private static void seek(Check check) {
        Build build = build();
        gives(check, "SEEK letters", build, build.seek(Build.LETTERS), "2" + S + " 3" + S + " 6" + S);
        build = build();
        gives(check, "SEEK what was before", build, build.seek(Build.just('-')), "");
    }

    private static void go(Check check) {
        Build build = build();
        gives(check, "GO", build, build.go(build.either(0, 7)),
            "0@0/0=11/1=12/2=13/3=14 7@7/0=11/1=12/2=13/3=14");
        build = build();
        // The RESULT of a has moved to place 4 and set a variable; GO changes the place alone.
        gives(check, "GO behind what moves", build, build.go(build.set(3, build.run(Build.LETTERS))),
            "2@2/0=11/1=12/2=13/3=2");
        build = build();
        gives(check, "GO off the text", build, build.go(build.either(-1, 8)), "");
    }

    private static void arithmetic(Check check) {
        int[] due = {16, 10, 39};
        for (int kind = 9; kind <= 11; kind++) {
            Build build = build();
            int node = build.x.node(kind, build.set(2, build.variable(2)), build.set(1, build.number(3)), 0);
            gives(check, "kind " + kind, build, node, due[kind - 9] + "@2/0=11/1=3/2=13/3=14");
            build = build();
            int seesX = build.x.node(kind, build.set(0, build.number(0)), build.variable(0), 0);
            gives(check, "kind " + kind + ", y in x's STATE", build, seesX, "0@2/1=12/2=13/3=14");
        }
    }

    private static void comparing(Check check) {
        Build build = build();
        gives(check, "LESS", build, build.less(readX(build), readY(build)), "98@4/0=97/1=98/2=13/3=14");
        build = new Build("--bab");
        gives(check, "LESS the other way", build, build.less(readX(build), readY(build)), "");
        build = new Build("--aab");
        gives(check, "SAME", build, build.same(readX(build), readY(build)), "97@4/0=97/1=97/2=13/3=14");
        build = build();
        gives(check, "SAME of others", build, build.same(readX(build), readY(build)), "");
    }

    private static void to(Check check) {
        Build build = build();
        gives(check, "TO", build, build.to(readX(build), readY(build)),
            "97@4/0=97/1=98/2=13/3=14 98@4/0=97/1=98/2=13/3=14");
        build = build();
        gives(check, "TO a lesser one", build, build.to(readX(build), build.number(96)), "");
    }

    private static void or(Check check) {
        Build build = build();
        gives(check, "OR", build, build.or(readX(build), build.add(build.variable(0), build.place())),
            "97@3/0=97/1=12/2=13/3=14 13" + S);
    }

    private static void then(Check check) {
        Build build = build();
        gives(check, "THEN", build, build.then(readX(build), build.add(build.variable(0), build.place())),
            "100@3/0=97/1=12/2=13/3=14");
        build = build();
        gives(check, "THEN behind two", build, build.then(build.or(readX(build), build.number(0)), build.place()),
            "3@3/0=97/1=12/2=13/3=14 2" + S);
    }

    private static void set(Check check) {
        for (int v = 0; v <= 3; v++) {
            Build build = build();
            gives(check, "SET " + v, build, build.set(v, build.run(Build.LETTERS)),
                "2@4" + "/0=11/1=12/2=13/3=14".replace("/" + v + "=1" + (1 + v), "/" + v + "=2"));
        }
        Build build = build();
        gives(check, "SET each", build, build.set(3, build.series(4, 5)),
            "4@2/0=11/1=12/2=13/3=4 5@2/0=11/1=12/2=13/3=5");
    }

    private static void first(Check check) {
        Build build = build();
        int some = build.or(readX(build), build.or(build.number(5), readY(build)));
        gives(check, "FIRST 2", build, build.first(2, some), "97@3/0=97/1=12/2=13/3=14 5" + S);
    }

    private static void choice(Check check) {
        Build build = build();
        int some = build.or(readX(build), build.go(build.number(0)));
        gives(check, "IF", build, build.iff(some, build.either(1, 2), build.number(3)),
            "1@3/0=97/1=12/2=13/3=14 2@3/0=97/1=12/2=13/3=14");
        build = build();
        int none = build.then(readX(build), build.one(Build.DIGITS));
        gives(check, "IF not", build, build.iff(none, build.number(1), build.either(2, 3)), "2" + S + " 3" + S);
    }

    private static void not(Check check) {
        Build build = build();
        gives(check, "NOT", build, build.not(build.then(readX(build), build.one(Build.DIGITS))), "0" + S);
        build = build();
        gives(check, "NOT of one", build, build.not(readX(build)), "");
    }

    private static void most(Check check) {
        Build build = build();
        int some = build.or(build.number(5), build.or(readX(build), build.set(3, build.number(6))));
        gives(check, "MOST", build, build.most(some), "97@3/0=97/1=12/2=13/3=14");
        build = build();
        int equal = build.or(build.set(3, build.number(6)), build.set(2, build.number(6)));
        gives(check, "MOST of equal ones", build, build.most(equal), "6@2/0=11/1=12/2=13/3=6");
    }
}
