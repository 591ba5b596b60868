/** The boundary cases of THE TEXT and the SORTS, and of promises 2 and 3. */
final class EdgeTextTest {
    private static final int[] NO_CHARACTERS = {-1, 256, -256, 256 + 'a', Integer.MIN_VALUE, Integer.MAX_VALUE};
    private static final int SORTS = 5 + 256;
    private static final int SORTS_AN_OBJECT = 58;

    public static void main(String[] args) {
        Check check = new Check();
        check.sentence("THE TEXT has at most 24 characters", EdgeTextTest::lengths);
        check.sentence("(0 .. 255)", EdgeTextTest::characters);
        check.sentence("at the places 0, 1, ...", EdgeTextTest::places);
        check.sentence("SORTS of characters: 0 digits ..; 256 + c just the character c", EdgeTextTest::sorts);
        check.sentence("Out of range: REFUSED", EdgeTextTest::outOfRange);
        check.sentence("or 24 there: REFUSED", EdgeTextTest::full);
        check.sentence("The text becomes empty", EdgeTextTest::wiped);
        check.sentence("how long it was", EdgeTextTest::lengthBefore);
        check.sentence("wipe: The RESULTS stay", EdgeTextTest::resultsStay);
        check.end();
    }

    private static void lengths(Check check) {
        Build build = new Build("");
        int length = build.length();
        check.due("LENGTH of the empty text", build.evaluated(length), "0@0");
        for (int due = 1; due <= 24; due++) {
            check.due("type", build.x.type('a'), due);
            check.due("count(1)", build.x.count(1), due);
            check.due("LENGTH", build.evaluated(length), due + "@0");
        }
        check.refused("the 25th type", build.x.type('a'));
        check.due("count(1)", build.x.count(1), 24);
        check.due("LENGTH", build.evaluated(length), "24@0");
    }

    private static void characters(Check check) {
        for (int c = 0; c <= 255; c++) {
            Build build = new Build("");
            check.due("type(" + c + ")", build.x.type(c), 1);
            check.due("ONE of all, with " + c, build.evaluated(build.one(Build.ALL)), c + "@1");
        }
        for (int c : NO_CHARACTERS) {
            check.refused("type(" + c + ")", new GoalScanner().type(c));
        }
    }

    private static void places(Check check) {
        for (int length : new int[] {1, 2, 23, 24}) {
            Build build = new Build("ABCDEFGHIJKLMNOPQRSTUVWX".substring(0, length));
            for (int p = 0; p < length; p++) {
                build.x.clear();
                check.due("the character at " + p, build.evaluated(build.at(p, build.one(Build.ALL))),
                    ('A' + p) + "@" + (p + 1));
            }
            check.due("the character behind the last", build.evaluated(build.at(length, build.one(Build.ALL))), "");
        }
    }

    private static int sort(int i) {
        return i < 5 ? i : 256 + i - 5;
    }

    private static boolean belongs(int c, int sort) {
        boolean digit = "0123456789".indexOf(c) >= 0;
        boolean letter = "abcdefghijklmnopqrstuvwxyz".indexOf(c) >= 0;
        return switch (sort) {
            case 0 -> digit;
            case 1 -> letter;
            case 2 -> digit || letter;
            case 3 -> c == 32 || c == 9;
            case 4 -> true;
            default -> c == sort - 256;
        };
    }

    /** Every character with every SORT, for each kind that has one. */
    private static void sorts(Check check) {
        for (int kind : new int[] {4, 5, 7}) {
            for (int c = 0; c <= 255; c++) {
                for (int from = 0; from < SORTS; from += SORTS_AN_OBJECT) {
                    someSorts(check, kind, c, from);
                }
            }
        }
    }

    private static void someSorts(Check check, int kind, int c, int from) {
        GoalScanner x = new GoalScanner();
        x.type(c);
        for (int i = from; i < Math.min(SORTS, from + SORTS_AN_OBJECT); i++) {
            int node = x.node(kind, sort(i), 0, 0);
            int due = belongs(c, sort(i)) ? 1 : 0;
            check.due("kind " + kind + " of SORT " + sort(i) + " at the character " + c, x.evaluate(node), due);
        }
    }

    private static void outOfRange(Check check) {
        for (int length : new int[] {0, 1, 23}) {
            Build build = new Build("a".repeat(length));
            for (int c : NO_CHARACTERS) {
                check.refused("type(" + c + ") behind " + length, build.x.type(c));
                check.due("count(1)", build.x.count(1), length);
            }
            check.due("type(0)", build.x.type(0), length + 1);
            String run = length == 0 ? "" : length + "@" + length;
            check.due("the RUN of a", build.evaluated(build.run(Build.just('a'))), run);
        }
    }

    private static void full(Check check) {
        Build build = new Build("a".repeat(23));
        check.due("the 24th type", build.x.type('z'), 24);
        for (int c : new int[] {0, 'a', 255, -1, 256}) {
            check.refused("type(" + c + ") behind 24", build.x.type(c));
        }
        check.due("count(1)", build.x.count(1), 24);
        check.due("the last character", build.evaluated(build.at(23, build.one(Build.ALL))), "122@24");
        check.due("wipe()", build.x.wipe(), 24);
        build.type("b".repeat(23));
        check.due("the 24th type again", build.x.type('y'), 24);
        check.refused("the 25th type again", build.x.type('y'));
        check.due("the last character", build.evaluated(build.at(23, build.one(Build.ALL))), "121@24");
    }

    private static void wiped(Check check) {
        Build build = new Build("a".repeat(24));
        int run = build.run(Build.ALL);
        int seek = build.seek(Build.ALL);
        int go = build.go(build.number(1));
        build.x.wipe();
        check.due("count(1)", build.x.count(1), 0);
        check.due("count(0)", build.x.count(0), 4);
        check.due("RUN", build.evaluated(run), "");
        check.due("SEEK", build.evaluated(seek), "");
        check.due("GO 1", build.evaluated(go), "");
        check.due("type behind wipe", build.x.type('b'), 1);
        // The characters of the old text lie behind the new one's end.
        check.due("RUN in the new text", build.evaluated(run), "1@1");
        check.due("SEEK in the new text", build.evaluated(seek), "0@0");
        check.due("GO 1 in the new text", build.evaluated(go), "1@1");
    }

    private static void lengthBefore(Check check) {
        for (int length : new int[] {0, 1, 23, 24}) {
            Build build = new Build("a".repeat(length));
            check.due("wipe() of " + length, build.x.wipe(), length);
            check.due("wipe() again", build.x.wipe(), 0);
        }
        Build build = new Build("a".repeat(24));
        build.x.type('b');
        check.due("wipe() behind a refused type", build.x.wipe(), 24);
    }

    private static void resultsStay(Check check) {
        Build none = new Build("abc");
        none.x.wipe();
        check.due("no RESULTS", none.x.count(2), 0);
        Build one = new Build("abc");
        one.x.evaluate(one.set(2, one.run(Build.ALL)));
        one.x.wipe();
        check.due("one RESULT", one.results(), "3@3/2=3");
        check.due("count(3)", one.x.count(3), 1);
        Build full = new Build("a".repeat(24));
        full.x.evaluate(full.at(24, full.upTo63()));
        full.x.wipe();
        check.due("count(2)", full.x.count(2), 64);
        check.due("count(3)", full.x.count(3), 64);
        for (int k = 0; k < 64; k++) {
            check.due("result(" + k + ")", full.x.result(k), k);
            check.due("place(" + k + ")", full.x.place(k), 24);
        }
    }
}
