/** The boundary cases of the kinds 0 .. 8: where there is none, and where there are too many. */
final class EdgeReadingKindsTest {
    private static final int MIN = Integer.MIN_VALUE;
    private static final int MAX = Integer.MAX_VALUE;
    private static final String FULL = "a".repeat(24);

    public static void main(String[] args) {
        Check check = new Check();
        check.sentence("0 NUMBER a: a, stays", EdgeReadingKindsTest::number);
        check.sentence("1 VARIABLE a: its value, stays", EdgeReadingKindsTest::variable);
        check.sentence("2 PLACE: p, stays", EdgeReadingKindsTest::place);
        check.sentence("3 LENGTH: n, stays", EdgeReadingKindsTest::length);
        check.sentence("4 ONE: if the character at p is there and of the SORT", EdgeReadingKindsTest::one);
        check.sentence("5 RUN: how many such follow one another from p on", EdgeReadingKindsTest::run);
        check.sentence("5 RUN: else none", EdgeReadingKindsTest::noRun);
        check.sentence("6 VALUE: at most 9 of them, the place behind those read", EdgeReadingKindsTest::value);
        check.sentence("6 VALUE: else none", EdgeReadingKindsTest::noValue);
        check.sentence("7 SEEK: each place from p on, rising", EdgeReadingKindsTest::seek);
        check.sentence("7 SEEK: at most the first 8", EdgeReadingKindsTest::seekMany);
        check.sentence("8 GO: if its int is 0 .. n", EdgeReadingKindsTest::go);
        check.sentence("8 GO: for each RESULT of a", EdgeReadingKindsTest::goEach);
        check.end();
    }

    /** What a node of the kind gives at a place of a text. */
    private static void gives(Check check, int kind, int a, String text, int place, String due) {
        Build build = new Build(text);
        int node = build.x.node(kind, a, 0, 0);
        check.due("kind " + kind + " of " + a + " at " + place + " of '" + text + "'",
            build.evaluated(build.at(place, node)), due);
    }

    private static void number(Check check) {
        for (int a : new int[] {MIN, -1, 0, 1, MAX}) {
            gives(check, 0, a, "", 0, a + "@0");
            gives(check, 0, a, FULL, 24, a + "@24");
        }
    }

    private static void variable(Check check) {
        for (int a : new int[] {0, 3}) {
            gives(check, 1, a, "", 0, "0@0");
            gives(check, 1, a, FULL, 24, "0@24");
        }
    }

    private static void place(Check check) {
        gives(check, 2, 0, "", 0, "0@0");
        gives(check, 2, 0, FULL, 0, "0@0");
        gives(check, 2, 0, FULL, 23, "23@23");
        gives(check, 2, 0, FULL, 24, "24@24");
    }

    private static void length(Check check) {
        gives(check, 3, 0, "", 0, "0@0");
        gives(check, 3, 0, "a", 1, "1@1");
        gives(check, 3, 0, FULL, 0, "24@0");
        gives(check, 3, 0, FULL, 24, "24@24");
    }

    private static void one(Check check) {
        gives(check, 4, Build.ALL, "", 0, "");
        gives(check, 4, Build.just(0), "", 0, "");
        gives(check, 4, Build.LETTERS, "a", 0, "97@1");
        gives(check, 4, Build.DIGITS, "a", 0, "");
        gives(check, 4, Build.ALL, "a", 1, "");
        gives(check, 4, Build.just(0), "a", 1, "");
        gives(check, 4, Build.ALL, FULL, 23, "97@24");
        gives(check, 4, Build.ALL, FULL, 24, "");
        gives(check, 4, Build.ALL, "\0", 0, "0@1");
        gives(check, 4, Build.ALL, "\u00ff", 0, "255@1");
        gives(check, 4, Build.just(0), "\0", 0, "0@1");
        gives(check, 4, Build.just(255), "\u00ff", 0, "255@1");
    }

    private static void run(Check check) {
        gives(check, 5, Build.LETTERS, "a", 0, "1@1");
        gives(check, 5, Build.LETTERS, "a1", 0, "1@1");
        gives(check, 5, Build.LETTERS, "aaaaaaaaa1a", 0, "9@9");
        gives(check, 5, Build.LETTERS, "aaaaaaaaaa1a", 0, "10@10");
        gives(check, 5, Build.LETTERS, "1a1aa", 3, "2@5");
        gives(check, 5, Build.LETTERS, FULL, 0, "24@24");
        gives(check, 5, Build.LETTERS, FULL, 1, "23@24");
        gives(check, 5, Build.LETTERS, FULL, 23, "1@24");
        gives(check, 5, Build.ALL, "\0".repeat(24), 0, "24@24");
        gives(check, 5, Build.just(255), "\u00ff".repeat(24), 0, "24@24");
    }

    private static void noRun(Check check) {
        gives(check, 5, Build.ALL, "", 0, "");
        gives(check, 5, Build.just(0), "", 0, "");
        gives(check, 5, Build.LETTERS, "1aaa", 0, "");
        gives(check, 5, Build.LETTERS, "aaa", 3, "");
        gives(check, 5, Build.just(0), "aaa", 3, "");
        gives(check, 5, Build.ALL, FULL, 24, "");
    }

    private static void value(Check check) {
        gives(check, 6, 0, "0", 0, "0@1");
        gives(check, 6, 0, "9", 0, "9@1");
        gives(check, 6, 0, "12345678", 0, "12345678@8");
        gives(check, 6, 0, "999999999", 0, "999999999@9");
        gives(check, 6, 0, "123456789a", 0, "123456789@9");
        gives(check, 6, 0, "9999999999", 0, "999999999@9");
        gives(check, 6, 0, "1234567890", 0, "123456789@9");
        // Zeros before the number are digits too, and count among the nine.
        gives(check, 6, 0, "0000000001", 0, "0@9");
        gives(check, 6, 0, "0000000012", 1, "12@10");
        gives(check, 6, 0, "0a", 0, "0@1");
        gives(check, 6, 0, "9".repeat(24), 0, "999999999@9");
        gives(check, 6, 0, "9".repeat(24), 15, "999999999@24");
        gives(check, 6, 0, "9".repeat(24), 16, "99999999@24");
        gives(check, 6, 0, "9".repeat(24), 23, "9@24");
        gives(check, 6, 0, "a12 3", 1, "12@3");
    }

    private static void noValue(Check check) {
        gives(check, 6, 0, "", 0, "");
        gives(check, 6, 0, "7", 1, "");
        gives(check, 6, 0, "9".repeat(24), 24, "");
        for (char c : new char[] {'/', ':', 'a', ' ', '-', '+', '\0', '\u00ff'}) {
            gives(check, 6, 0, c + "1", 0, "");
            gives(check, 6, 0, "1" + c, 0, "1@1");
        }
    }

    private static void seek(Check check) {
        gives(check, 7, Build.ALL, "", 0, "");
        gives(check, 7, Build.just(0), "", 0, "");
        gives(check, 7, Build.ALL, "a", 0, "0@0");
        gives(check, 7, Build.ALL, "a", 1, "");
        gives(check, 7, Build.DIGITS, "aaa", 0, "");
        gives(check, 7, Build.DIGITS, "1a1a1", 0, "0@0 2@0 4@0");
        gives(check, 7, Build.DIGITS, "1a1a1", 1, "2@1 4@1");
        gives(check, 7, Build.DIGITS, "1a1a1", 2, "2@2 4@2");
        gives(check, 7, Build.DIGITS, "1a1a1", 4, "4@4");
        gives(check, 7, Build.DIGITS, "1a1a1", 5, "");
        gives(check, 7, Build.DIGITS, "a".repeat(23) + "1", 0, "23@0");
        gives(check, 7, Build.ALL, FULL, 23, "23@23");
        gives(check, 7, Build.ALL, FULL, 24, "");
    }

    private static void seekMany(Check check) {
        gives(check, 7, Build.ALL, "a".repeat(7), 0, "0@0 1@0 2@0 3@0 4@0 5@0 6@0");
        String eight = "0@0 1@0 2@0 3@0 4@0 5@0 6@0 7@0";
        gives(check, 7, Build.ALL, "a".repeat(8), 0, eight);
        gives(check, 7, Build.ALL, "a".repeat(9), 0, eight);
        gives(check, 7, Build.ALL, FULL, 0, eight);
        gives(check, 7, Build.ALL, FULL, 15, "15@15 16@15 17@15 18@15 19@15 20@15 21@15 22@15");
        gives(check, 7, Build.ALL, FULL, 16, "16@16 17@16 18@16 19@16 20@16 21@16 22@16 23@16");
        gives(check, 7, Build.ALL, FULL, 17, "17@17 18@17 19@17 20@17 21@17 22@17 23@17");
        // Places of other characters do not count among the eight.
        gives(check, 7, Build.DIGITS, "a1".repeat(8), 0, "1@0 3@0 5@0 7@0 9@0 11@0 13@0 15@0");
        gives(check, 7, Build.DIGITS, "a1".repeat(9), 0, "1@0 3@0 5@0 7@0 9@0 11@0 13@0 15@0");
        gives(check, 7, Build.DIGITS, "a".repeat(16) + "1".repeat(8), 0,
            "16@0 17@0 18@0 19@0 20@0 21@0 22@0 23@0");
    }

    private static void go(Check check) {
        for (int length : new int[] {0, 1, 23, 24}) {
            for (int target : new int[] {0, length}) {
                Build build = new Build("a".repeat(length));
                check.due("GO " + target + " of " + length, build.evaluated(build.go(build.number(target))),
                    target + "@" + target);
            }
            for (int target : new int[] {-1, length + 1, 25, MIN, MAX}) {
                Build build = new Build("a".repeat(length));
                check.due("GO " + target + " of " + length, build.evaluated(build.go(build.number(target))), "");
            }
        }
    }

    private static void goEach(Check check) {
        Build build = new Build("abc");
        check.due("GO of none", build.evaluated(build.go(build.nothing())), "");
        check.due("GO of some off both ends", build.evaluated(build.go(build.series(-3, 4))), "0@0 1@1 2@2 3@3");
        int moved = build.go(build.sub(build.set(2, build.run(Build.ALL)), build.number(2)));
        check.due("GO from another STATE", build.evaluated(moved), "1@1/2=3");
        build.retype("");
        check.due("GO in the empty text", build.evaluated(build.go(build.series(-3, 4))), "0@0");
        Build full = new Build(FULL);
        full.x.evaluate(full.go(full.upTo63()));
        check.due("GO to 25 of 64", full.x.count(2), 25);
        check.due("the first place", full.x.place(0), 0);
        check.due("the last place", full.x.place(24), 24);
    }
}
