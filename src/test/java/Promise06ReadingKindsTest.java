/** Promise 6: what the kinds 0 .. 8 give, and the SORTS. */
final class Promise06ReadingKindsTest {
    public static void main(String[] args) {
        Check check = new Check();
        staying(check);
        sorts(check);
        one(check);
        run(check);
        value(check);
        seek(check);
        go(check);
        unnamedOperands(check);
        check.end();
    }

    /** Puts a node behind as many characters as said. */
    private static int behind(Build build, int place, int node) {
        return build.then(build.go(build.number(place)), node);
    }

    private static void staying(Check check) {
        Build build = new Build("abcd");
        check.due("NUMBER", build.evaluated(build.number(Integer.MIN_VALUE)), Integer.MIN_VALUE + "@0");
        check.due("NUMBER further on", build.evaluated(behind(build, 3, build.number(7))), "7@3");
        check.due("VARIABLE", build.evaluated(build.variable(3)), "0@0");
        int set = build.set(3, build.number(8));
        check.due("VARIABLE that was set", build.evaluated(build.then(set, build.variable(3))), "8@0/3=8");
        check.due("PLACE", build.evaluated(build.place()), "0@0");
        check.due("PLACE further on", build.evaluated(behind(build, 2, build.place())), "2@2");
        check.due("LENGTH", build.evaluated(build.length()), "4@0");
        check.due("LENGTH further on", build.evaluated(behind(build, 4, build.length())), "4@4");
    }

    private static void sorts(Check check) {
        for (int c = 0; c < 256; c++) {
            boolean digit = "0123456789".indexOf(c) >= 0;
            boolean letter = "abcdefghijklmnopqrstuvwxyz".indexOf(c) >= 0;
            boolean[] due = {digit, letter, digit || letter, c == 32 || c == 9, true};
            GoalScanner x = new GoalScanner();
            x.type(c);
            for (int sort = 0; sort < 5; sort++) {
                x.node(4, sort, 0, 0);
                check.due("whether " + c + " is of SORT " + sort, x.evaluate(sort) == 1, due[sort]);
            }
            check.due("just " + c, x.evaluate(x.node(4, 256 + c, 0, 0)), 1);
            check.due("just another than " + c, x.evaluate(x.node(4, 256 + (c + 1) % 256, 0, 0)), 0);
        }
    }

    private static void one(Check check) {
        Build build = new Build("a1");
        check.due("ONE", build.evaluated(build.one(Build.LETTERS)), "97@1");
        check.due("ONE of another SORT", build.evaluated(build.one(Build.DIGITS)), "");
        check.due("ONE further on", build.evaluated(behind(build, 1, build.one(Build.DIGITS))), "49@2");
        check.due("ONE at the end", build.evaluated(behind(build, 2, build.one(Build.ALL))), "");
        build.retype("");
        check.due("ONE in the empty text", build.evaluated(build.one(Build.ALL)), "");
        check.due("ONE of character 0 in the empty text", build.evaluated(build.one(Build.just(0))), "");
    }

    private static void run(Check check) {
        Build build = new Build("ab1 cd");
        check.due("RUN", build.evaluated(build.run(Build.LETTERS)), "2@2");
        check.due("RUN of a wider SORT", build.evaluated(build.run(Build.LETTERS_OR_DIGITS)), "3@3");
        check.due("RUN of digits", build.evaluated(behind(build, 2, build.run(Build.DIGITS))), "1@3");
        check.due("RUN of another SORT", build.evaluated(build.run(Build.BLANKS)), "");
        check.due("RUN up to the end", build.evaluated(behind(build, 4, build.run(Build.LETTERS))), "2@6");
        check.due("RUN at the end", build.evaluated(behind(build, 6, build.run(Build.ALL))), "");
        build.retype("aaaaaaaaaaaaaaaaaaaaaaaa");
        check.due("RUN of the whole text", build.evaluated(build.run(Build.just('a'))), "24@24");
        build.retype("b");
        // What was typed before must not be read behind the end.
        check.due("RUN in the new text", build.evaluated(build.run(Build.LETTERS)), "1@1");
    }

    private static void value(Check check) {
        Build build = new Build("0420x7");
        check.due("VALUE", build.evaluated(build.value()), "420@4");
        check.due("VALUE at a letter", build.evaluated(behind(build, 4, build.value())), "");
        check.due("VALUE up to the end", build.evaluated(behind(build, 5, build.value())), "7@6");
        check.due("VALUE at the end", build.evaluated(behind(build, 6, build.value())), "");
        build.retype("999999999");
        check.due("VALUE of 9 digits", build.evaluated(build.value()), "999999999@9");
        build.retype("1234567890123");
        int value = build.value();
        check.due("VALUE of 13 digits", build.evaluated(value), "123456789@9");
        check.due("VALUE of the rest", build.evaluated(build.then(value, build.value())), "123@13");
        build.retype("-5");
        check.due("VALUE at a sign", build.evaluated(build.value()), "");
    }

    private static void seek(Check check) {
        Build build = new Build("a1b2c3");
        check.due("SEEK", build.evaluated(build.seek(Build.DIGITS)), "1@0 3@0 5@0");
        check.due("SEEK further on", build.evaluated(behind(build, 3, build.seek(Build.DIGITS))), "3@3 5@3");
        check.due("SEEK what is not there", build.evaluated(build.seek(Build.BLANKS)), "");
        check.due("SEEK at the end", build.evaluated(behind(build, 6, build.seek(Build.ALL))), "");
        build.retype("a.b.c.d.e.f.g.h.i.j.");
        check.due("SEEK the first 8", build.evaluated(build.seek(Build.LETTERS)), "0@0 2@0 4@0 6@0 8@0 10@0 12@0 14@0");
    }

    private static void go(Check check) {
        Build build = new Build("abc");
        check.due("GO 0", build.evaluated(build.go(build.number(0))), "0@0");
        check.due("GO to the end", build.evaluated(build.go(build.number(3))), "3@3");
        check.due("GO behind the end", build.evaluated(build.go(build.number(4))), "");
        check.due("GO before the start", build.evaluated(build.go(build.number(-1))), "");
        check.due("GO far off", build.evaluated(build.go(build.either(Integer.MIN_VALUE, Integer.MAX_VALUE))), "");
        int some = build.go(build.set(1, build.series(-2, 5)));
        check.due("GO to some", build.evaluated(some), "0@0 1@1/1=1 2@2/1=2 3@3/1=3");
        check.due("GO back", build.evaluated(build.then(build.run(Build.ALL), build.go(build.number(1)))), "1@1");
    }

    /** Operands that a kind does not name mean nothing, even where another kind could read them. */
    private static void unnamedOperands(Check check) {
        String[] due = {"4@0", "0@0", "0@0", "2@0", "49@1", "2@2", "12@2"};
        for (int kind = 0; kind <= 6; kind++) {
            Build build = new Build("12");
            int a = kind == 1 ? 3 : Build.ALL;
            check.due("kind " + kind, build.evaluated(build.x.node(kind, a, Build.ALL, Build.ALL)), due[kind]);
        }
    }
}
