/** The document's first sentence: what the class is for, in whole expressions. */
final class WhatItIsTest {
    public static void main(String[] args) {
        Check check = new Check();
        check.sentence("Expressions that can succeed several times", WhatItIsTest::severalTimes);
        check.sentence("they scan a text", WhatItIsTest::scan);
        check.sentence("try alternatives in order", WhatItIsTest::inOrder);
        check.sentence("and take back what a later failure undoes", WhatItIsTest::takeBack);
        check.end();
    }

    private static void severalTimes(Check check) {
        Build build = new Build("ab ab");
        int words = build.then(build.go(build.seek(Build.LETTERS)), build.run(Build.LETTERS));
        check.due("a word from each letter on", build.evaluated(words), "2@2 1@2 2@5 1@5");
        int sums = build.same(build.number(5), build.add(build.series(1, 4), build.series(1, 4)));
        check.due("two numbers with the sum 5", build.evaluated(sums), "5@0 5@0 5@0 5@0");
        check.due("an expression that succeeds once", build.evaluated(build.length()), "5@0");
        check.due("an expression that does not succeed", build.evaluated(build.one(Build.DIGITS)), "");
    }

    /** A number, a plus sign with spaces around it or without, and a second number. */
    private static int sum(Build build) {
        int blanks = build.or(build.run(Build.BLANKS), build.number(0));
        int plus = build.then(blanks, build.one(Build.just('+')));
        int more = build.or(build.run(Build.BLANKS), build.number(0));
        return build.add(build.value(), build.then(plus, build.then(more, build.value())));
    }

    private static void scan(Check check) {
        Build build = new Build("12+30");
        int sum = sum(build);
        check.due("a sum", build.evaluated(sum), "42@5");
        build.retype("12 \t+  30;");
        check.due("a sum with blanks", build.evaluated(sum), "42@9");
        build.retype("12-30");
        check.due("no sum", build.evaluated(sum), "");
        build.retype("12+");
        check.due("half a sum", build.evaluated(sum), "");
    }

    private static void inOrder(Check check) {
        Build build = new Build("a1");
        int three = build.or(build.number(3), build.or(build.number(1), build.number(2)));
        check.due("three alternatives", build.evaluated(three), "3@0 1@0 2@0");
        int nested = build.or(build.or(build.number(3), build.number(1)), build.number(2));
        check.due("three alternatives, the first two together", build.evaluated(nested), "3@0 1@0 2@0");
        int pairs = build.add(build.either(10, 20), build.or(build.nothing(), build.either(2, 1)));
        check.due("alternatives on both sides", build.evaluated(pairs), "12@0 11@0 22@0 21@0");
        int held = build.or(build.place(), build.length());
        int late = build.or(build.one(Build.DIGITS), build.or(build.nothing(), held));
        check.due("attempt of alternatives, of which two fail", build.x.attempt(late), 1);
        check.due("the first that holds", build.results(), "0@0");
        int kind = build.iff(build.one(Build.DIGITS), build.number(7),
            build.iff(build.one(Build.LETTERS), build.number(8), build.number(9)));
        check.due("a choice of three", build.evaluated(kind), "8@1");
    }

    private static void takeBack(Check check) {
        Build build = new Build("abc");
        // The first alternative reads and sets, then fails; the second must find neither.
        int failing = build.then(build.set(0, build.run(Build.LETTERS)), build.one(Build.DIGITS));
        int looking = build.add(build.variable(0), build.place());
        check.due("behind a failed alternative", build.evaluated(build.or(failing, looking)), "0@0");
        // Both alternatives hold at first, and what follows fails behind the first of them alone.
        int either = build.or(build.set(1, build.run(Build.LETTERS)), build.set(2, build.one(Build.LETTERS)));
        int next = build.then(either, build.one(Build.just('b')));
        check.due("behind what a later failure undoes", build.evaluated(next), "98@2/2=97");
        int deeper = build.then(build.go(build.seek(Build.ALL)), build.then(build.set(3, build.one(Build.ALL)),
            build.one(Build.just('c'))));
        check.due("behind failures of an inner part", build.evaluated(deeper), "99@3/3=98");
        build.x.clear();
        int tried = build.not(build.then(build.set(0, build.one(Build.ALL)), build.nothing()));
        check.due("behind NOT", build.evaluated(build.then(tried, build.add(build.variable(0), build.place()))), "0@0");
    }
}
