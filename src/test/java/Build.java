/** A GoalScanner with a text, and a method for each kind of node; operands that a kind does not name get odd ints. */
final class Build {
    static final int DIGITS = 0;
    static final int LETTERS = 1;
    static final int LETTERS_OR_DIGITS = 2;
    static final int BLANKS = 3;
    static final int ALL = 4;
    private static final int ODD = Integer.MIN_VALUE + 7;

    final GoalScanner x;

    Build(String text) {
        this(new GoalScanner(), text);
    }

    Build(GoalScanner x, String text) {
        this.x = x;
        type(text);
    }

    static int just(int character) {
        return 256 + character;
    }

    void type(String text) {
        for (int i = 0; i < text.length(); i++) {
            x.type(text.charAt(i));
        }
    }

    void retype(String text) {
        x.wipe();
        type(text);
    }

    int number(int a) {
        return x.node(0, a, ODD, ODD);
    }

    int variable(int a) {
        return x.node(1, a, ODD, ODD);
    }

    int place() {
        return x.node(2, ODD, ODD, ODD);
    }

    int length() {
        return x.node(3, ODD, ODD, ODD);
    }

    int one(int sort) {
        return x.node(4, sort, ODD, ODD);
    }

    int run(int sort) {
        return x.node(5, sort, ODD, ODD);
    }

    int value() {
        return x.node(6, ODD, ODD, ODD);
    }

    int seek(int sort) {
        return x.node(7, sort, ODD, ODD);
    }

    int go(int a) {
        return x.node(8, a, ODD, ODD);
    }

    int add(int a, int b) {
        return x.node(9, a, b, ODD);
    }

    int sub(int a, int b) {
        return x.node(10, a, b, ODD);
    }

    int mul(int a, int b) {
        return x.node(11, a, b, ODD);
    }

    int less(int a, int b) {
        return x.node(12, a, b, ODD);
    }

    int same(int a, int b) {
        return x.node(13, a, b, ODD);
    }

    int to(int a, int b) {
        return x.node(14, a, b, ODD);
    }

    int or(int a, int b) {
        return x.node(15, a, b, ODD);
    }

    int then(int a, int b) {
        return x.node(16, a, b, ODD);
    }

    int set(int variable, int b) {
        return x.node(17, variable, b, ODD);
    }

    int first(int count, int b) {
        return x.node(18, count, b, ODD);
    }

    int iff(int a, int b, int c) {
        return x.node(19, a, b, c);
    }

    int not(int a) {
        return x.node(20, a, ODD, ODD);
    }

    int most(int a) {
        return x.node(21, a, ODD, ODD);
    }

    /** The numbers from x up to y, as one node. */
    int series(int from, int upTo) {
        return to(number(from), number(upTo));
    }

    /** A node that gives two numbers. */
    int either(int one, int other) {
        return or(number(one), number(other));
    }

    /** A node that gives nothing. */
    int nothing() {
        return less(number(1), number(0));
    }

    /** A node with BOUND 64, WORK 73 and LEVEL 2. */
    int sixtyFour() {
        return add(seek(ALL), seek(ALL));
    }

    /** A node with BOUND 64 that gives 0, 1, .. 63 in any text; it takes 9 nodes and has LEVEL 4. */
    int upTo63() {
        return add(mul(series(0, 7), number(8)), series(0, 7));
    }

    /** A node in the STATE with that place. */
    int at(int place, int node) {
        return then(go(number(place)), node);
    }

    /** A node in the STATE with that place and the variables 11, 12, 13 and 14. */
    int inState(int place, int node) {
        int lower = then(set(0, number(11)), set(1, number(12)));
        int upper = then(set(2, number(13)), set(3, number(14)));
        return then(then(lower, upper), at(place, node));
    }

    /** A node with just that BOUND, up to 64. */
    int ofBound(int bound) {
        if (bound == 1) {
            return number(0);
        }
        if (bound <= 8) {
            return first(bound, seek(ALL));
        }
        if (bound % 8 == 0) {
            return add(seek(ALL), ofBound(bound / 8));
        }
        return or(ofBound(bound - bound % 8), ofBound(bound % 8));
    }

    /** A node with just that LEVEL. */
    int ofLevel(int level) {
        int deep = number(0);
        for (int above = 2; above <= level; above++) {
            deep = most(deep);
        }
        return deep;
    }

    /** A node with BOUND 1 and just that WORK, 1997 .. 2000, and LEVEL 7; it takes some 40 nodes. */
    int heavy(int work) {
        int most = most(then(sixtyFour(), ofWork(30)));
        return then(most, ofWork(work - 1996));
    }

    /** A node with BOUND 1 and just that WORK, 244 .. 250, and LEVEL 7; it takes some 40 nodes. */
    int halfHeavy(int work) {
        int most = most(then(seek(ALL), ofWork(29)));
        return then(ofWork(work - 243), most);
    }

    /** A node with BOUND 1 and just that WORK; flat, so that others can stand above it: up to 40, LEVEL 4. */
    int ofWork(int work) {
        if (work == 1) {
            return number(0);
        }
        if (work == 2) {
            return not(number(0));
        }
        if (work == 3) {
            return add(number(0), number(0));
        }
        int a = (work - 1) / 3;
        int b = (work - 1 - a) / 2;
        return iff(ofWork(a), ofWork(b), ofWork(work - 1 - a - b));
    }

    String evaluated(int node) {
        int count = x.evaluate(node);
        return count == x.count(2) ? results() : "evaluate " + count + ", count " + x.count(2);
    }

    /** All RESULTS: int@place, and behind it the variables that are not 0. */
    String results() {
        StringBuilder shown = new StringBuilder();
        for (int k = 0; k < x.count(2); k++) {
            shown.append(k == 0 ? "" : " ").append(x.result(k)).append('@').append(x.place(k));
            for (int v = 0; v < 4; v++) {
                shown.append(x.variable(k, v) == 0 ? "" : "/" + v + "=" + x.variable(k, v));
            }
        }
        return shown.toString();
    }
}
