/** Promise 2: type puts a character at the end of the text. */
final class Promise02TypeTest {
    public static void main(String[] args) {
        Check check = new Check();
        ordinary(check);
        wrongCharacters(check);
        fullText(check);
        check.end();
    }

    private static void ordinary(Check check) {
        Build build = new Build("");
        check.due("type(0)", build.x.type(0), 1);
        check.due("type(255)", build.x.type(255), 2);
        check.due("type('a')", build.x.type('a'), 3);
        int all = build.then(build.go(build.seek(Build.ALL)), build.one(Build.ALL));
        check.due("the text", build.evaluated(all), "0@1 255@2 97@3");
    }

    private static void wrongCharacters(Check check) {
        Build build = new Build("ab");
        int[] wrong = {-1, 256, Integer.MIN_VALUE, Integer.MAX_VALUE, 256 + 97};
        for (int c : wrong) {
            check.refused("type(" + c + ")", build.x.type(c));
            check.due("count(1)", build.x.count(1), 2);
        }
        int all = build.then(build.go(build.seek(Build.ALL)), build.one(Build.ALL));
        check.due("the text", build.evaluated(all), "97@1 98@2");
    }

    private static void fullText(Check check) {
        GoalScanner x = new GoalScanner();
        for (int length = 1; length <= 24; length++) {
            check.due("type", x.type('0' + length), length);
        }
        check.refused("the 25th type", x.type('a'));
        check.refused("the 26th type, out of range", x.type(-1));
        check.due("count(1)", x.count(1), 24);
        x.node(8, x.node(0, 23, 0, 0), 0, 0);
        x.node(16, 1, x.node(4, 4, 0, 0), 0);
        x.evaluate(3);
        check.due("the last character", x.result(0), '0' + 24);
        x.wipe();
        check.due("type behind wipe", x.type('z'), 1);
    }
}
