/** Promise 3: wipe empties the text and answers how long it was; the RESULTS stay. */
final class Promise03WipeTest {
    public static void main(String[] args) {
        Check check = new Check();
        Build build = new Build("abc");
        int seek = build.seek(Build.LETTERS);
        int run = build.run(Build.ALL);
        build.x.evaluate(run);
        check.due("wipe()", build.x.wipe(), 3);
        check.due("count(1)", build.x.count(1), 0);
        check.due("the RESULTS", build.results(), "3@3");
        check.due("count(3)", build.x.count(3), 1);
        check.due("count(0)", build.x.count(0), 2);
        check.due("wipe() of the empty text", build.x.wipe(), 0);
        check.due("evaluate in the empty text", build.evaluated(seek), "");
        build.type("1d");
        check.due("evaluate in the new text", build.evaluated(seek), "1@0");
        check.due("wipe()", build.x.wipe(), 2);
        check.end();
    }
}
