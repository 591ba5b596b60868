/**
 * Expressions that can succeed several times: they scan a text, try alternatives in order, and take back what a later
 * failure undoes. The document ../shared/DOC.md says what each call does; the words in capitals are its terms.
 */
public final class GoalScanner {
    public static final int REFUSED = -1;
    public static final long NONE = 1000000000000L;

    private static final int CHARACTER_LIMIT = 24;
    private static final int GREATEST_CHARACTER = 255;
    private static final int VARIABLE_LIMIT = 4;
    private static final int NODE_LIMIT = 60;
    private static final int BOUND_LIMIT = 64;
    private static final int WORK_LIMIT = 2000;
    private static final int LEVEL_LIMIT = 8;
    private static final int SERIES_LIMIT = 8;
    private static final int FIRST_LIMIT = 8;
    private static final int DIGIT_LIMIT = 9;

    // A LEVEL holds at most its first operand's rows and its own finished ones while the LEVEL below works; the one
    // row more is the STATE in which the EVALUATION begins.
    private static final int ROW_LIMIT = 1 + LEVEL_LIMIT * 2 * BOUND_LIMIT;

    private static final int DIGITS = 0;
    private static final int LETTERS = 1;
    private static final int LETTERS_OR_DIGITS = 2;
    private static final int BLANKS = 3;
    private static final int ALL = 4;
    private static final int JUST = 256;

    private static final int NUMBER = 0;
    private static final int VARIABLE = 1;
    private static final int PLACE = 2;
    private static final int LENGTH = 3;
    private static final int ONE = 4;
    private static final int RUN = 5;
    private static final int VALUE = 6;
    private static final int SEEK = 7;
    private static final int GO = 8;
    private static final int ADD = 9;
    private static final int SUB = 10;
    private static final int MUL = 11;
    private static final int LESS = 12;
    private static final int SAME = 13;
    private static final int TO = 14;
    private static final int OR = 15;
    private static final int THEN = 16;
    private static final int SET = 17;
    private static final int FIRST = 18;
    private static final int IF = 19;
    private static final int NOT = 20;
    private static final int MOST = 21;

    private static final int A = 1;
    private static final int B = 2;
    private static final int C = 4;

    // By kind: which of a, b and c name nodes.
    private static final int[] OPERANDS = {
        0, 0, 0, 0, 0, 0, 0, 0,
        A, A | B, A | B, A | B, A | B, A | B, A | B, A | B, A | B,
        B, B, A | B | C, A, A
    };

    private final Text text;
    private final Node[] nodes;
    private int nodeCount;
    private final Rows rows;
    private final Rows results;
    private int resultsTextLength;

    public GoalScanner() {
        text = new Text();
        nodes = new Node[NODE_LIMIT];
        for (int i = 0; i < NODE_LIMIT; i++) {
            nodes[i] = new Node();
        }
        rows = new Rows(ROW_LIMIT);
        results = new Rows(BOUND_LIMIT);
    }

    public int type(int c) {
        if (c < 0 || c > GREATEST_CHARACTER || text.length >= CHARACTER_LIMIT) {
            return REFUSED;
        }
        text.append(c);
        return text.length;
    }

    public int wipe() {
        int before = text.length;
        text.length = 0;
        return before;
    }

    public int node(int kind, int a, int b, int c) {
        if (kind < NUMBER || kind > MOST || nodeCount >= NODE_LIMIT) {
            return REFUSED;
        }
        if (!isPlainOperandFit(kind, a) || !areNodeOperandsFit(OPERANDS[kind], a, b, c)) {
            return REFUSED;
        }
        // The first free Node is no node yet, so it may be filled before it is known whether it stays.
        Node made = nodes[nodeCount];
        made.fill(kind, a, b, c);
        made.bound = boundOf(made);
        made.work = workOf(made);
        made.level = levelOf(made);
        if (made.bound > BOUND_LIMIT || made.work > WORK_LIMIT || made.level > LEVEL_LIMIT) {
            return REFUSED;
        }
        useOperands(made);
        nodeCount++;
        return nodeCount - 1;
    }

    public int clear() {
        int before = nodeCount;
        nodeCount = 0;
        return before;
    }

    public int evaluate(int node) {
        return keepResults(node, BOUND_LIMIT);
    }

    public int attempt(int node) {
        return keepResults(node, 1);
    }

    public long result(int k) {
        return results.has(k) ? results.intAt(k) : NONE;
    }

    public int place(int k) {
        return results.has(k) ? results.placeAt(k) : REFUSED;
    }

    public long variable(int k, int v) {
        return results.has(k) && isVariable(v) ? results.variableAt(k, v) : NONE;
    }

    public int bound(int node) {
        return isNode(node) ? nodes[node].bound : REFUSED;
    }

    public int level(int node) {
        return isNode(node) ? nodes[node].level : REFUSED;
    }

    public boolean used(int node) {
        return isNode(node) && nodes[node].used;
    }

    public int count(int what) {
        switch (what) {
            case 0:
                return nodeCount;
            case 1:
                return text.length;
            case 2:
                return results.size;
            case 3:
                return results.countAtPlace(resultsTextLength);
            default:
                return REFUSED;
        }
    }

    private boolean isNode(int number) {
        return number >= 0 && number < nodeCount;
    }

    private boolean isFree(int number) {
        return isNode(number) && !nodes[number].used;
    }

    private static boolean isVariable(int v) {
        return v >= 0 && v < VARIABLE_LIMIT;
    }

    private static boolean isSort(int sort) {
        return sort >= DIGITS && sort <= ALL || sort >= JUST && sort <= JUST + GREATEST_CHARACTER;
    }

    /** Whether a may stand there, for a kind whose a is a variable, a SORT or a count. */
    private static boolean isPlainOperandFit(int kind, int a) {
        switch (kind) {
            case VARIABLE:
            case SET:
                return isVariable(a);
            case ONE:
            case RUN:
            case SEEK:
                return isSort(a);
            case FIRST:
                return a >= 1 && a <= FIRST_LIMIT;
            default:
                return true;
        }
    }

    private boolean areNodeOperandsFit(int named, int a, int b, int c) {
        boolean namesA = (named & A) != 0;
        boolean namesB = (named & B) != 0;
        boolean namesC = (named & C) != 0;
        if (namesA && !isFree(a) || namesB && !isFree(b) || namesC && !isFree(c)) {
            return false;
        }
        boolean twice = namesA && namesB && a == b || namesA && namesC && a == c || namesB && namesC && b == c;
        return !twice;
    }

    private void useOperands(Node node) {
        int named = OPERANDS[node.kind];
        if ((named & A) != 0) {
            nodes[node.a].used = true;
        }
        if ((named & B) != 0) {
            nodes[node.b].used = true;
        }
        if ((named & C) != 0) {
            nodes[node.c].used = true;
        }
    }

    private int boundOf(Node node) {
        switch (node.kind) {
            case SEEK:
                return SERIES_LIMIT;
            case GO:
                return nodes[node.a].bound;
            case SET:
                return nodes[node.b].bound;
            case ADD:
            case SUB:
            case MUL:
            case LESS:
            case SAME:
            case THEN:
                return nodes[node.a].bound * nodes[node.b].bound;
            case TO:
                return SERIES_LIMIT * nodes[node.a].bound * nodes[node.b].bound;
            case OR:
                return nodes[node.a].bound + nodes[node.b].bound;
            case FIRST:
                return Math.min(node.a, nodes[node.b].bound);
            case IF:
                return Math.max(nodes[node.b].bound, nodes[node.c].bound);
            default:
                return 1;
        }
    }

    private int workOf(Node node) {
        switch (node.kind) {
            case SEEK:
                return SERIES_LIMIT;
            case GO:
            case NOT:
            case MOST:
                return 1 + nodes[node.a].work;
            case SET:
            case FIRST:
                return 1 + nodes[node.b].work;
            case ADD:
            case SUB:
            case MUL:
            case LESS:
            case SAME:
            case THEN:
                return workOfPairs(node);
            case TO:
                return SERIES_LIMIT * workOfPairs(node);
            case OR:
                return 1 + nodes[node.a].work + nodes[node.b].work;
            case IF:
                return 1 + nodes[node.a].work + nodes[node.b].work + nodes[node.c].work;
            default:
                return 1;
        }
    }

    private int workOfPairs(Node node) {
        return 1 + nodes[node.a].work + nodes[node.a].bound * nodes[node.b].work;
    }

    private int levelOf(Node node) {
        int named = OPERANDS[node.kind];
        int greatest = 0;
        if ((named & A) != 0) {
            greatest = Math.max(greatest, nodes[node.a].level);
        }
        if ((named & B) != 0) {
            greatest = Math.max(greatest, nodes[node.b].level);
        }
        if ((named & C) != 0) {
            greatest = Math.max(greatest, nodes[node.c].level);
        }
        return greatest + 1;
    }

    private int keepResults(int node, int most) {
        if (!isNode(node)) {
            return REFUSED;
        }
        // Row 0 is never written, so it always holds place 0 and all variables 0.
        rows.size = 1;
        solve(node, 0);
        results.takeFrom(rows, 1, most);
        resultsTextLength = text.length;
        return results.size;
    }

    /**
     * Puts the RESULTS that a node gives in the STATE of the row at on top of the rows. It calls itself for operands
     * alone, whose LEVEL is lower, and no node has a LEVEL above 8.
     */
    private void solve(int number, int at) {
        Node node = nodes[number];
        switch (node.kind) {
            case NUMBER:
                rows.push(node.a, at);
                break;
            case VARIABLE:
                rows.push(rows.variableAt(at, node.a), at);
                break;
            case PLACE:
                rows.push(rows.placeAt(at), at);
                break;
            case LENGTH:
                rows.push(text.length, at);
                break;
            case ONE:
                solveOne(node.a, at);
                break;
            case RUN:
                solveRun(node.a, at);
                break;
            case VALUE:
                solveValue(at);
                break;
            case SEEK:
                solveSeek(node.a, at);
                break;
            case GO:
                solveGo(node, at);
                break;
            case OR:
                solve(node.a, at);
                solve(node.b, at);
                break;
            case SET:
                solveSet(node, at);
                break;
            case FIRST:
                solveFirst(node, at);
                break;
            case IF:
                solveIf(node, at);
                break;
            case NOT:
                solveNot(node, at);
                break;
            case MOST:
                solveMost(node, at);
                break;
            default:
                solvePairs(node, at);
                break;
        }
    }

    private void solveOne(int sort, int at) {
        int p = rows.placeAt(at);
        if (text.isOf(p, sort)) {
            rows.pushAtPlace(text.characters[p], p + 1, at);
        }
    }

    private void solveRun(int sort, int at) {
        int p = rows.placeAt(at);
        int behind = text.behindRun(p, sort, CHARACTER_LIMIT);
        if (behind > p) {
            rows.pushAtPlace(behind - p, behind, at);
        }
    }

    private void solveValue(int at) {
        int p = rows.placeAt(at);
        int behind = text.behindRun(p, DIGITS, DIGIT_LIMIT);
        if (behind > p) {
            rows.pushAtPlace(text.decimal(p, behind), behind, at);
        }
    }

    private void solveSeek(int sort, int at) {
        int found = 0;
        for (int p = rows.placeAt(at); p < text.length && found < SERIES_LIMIT; p++) {
            if (text.isOf(p, sort)) {
                rows.push(p, at);
                found++;
            }
        }
    }

    private void solveGo(Node node, int at) {
        int first = rows.size;
        solve(node.a, at);
        int end = rows.size;
        for (int row = first; row < end; row++) {
            int target = rows.intAt(row);
            if (target >= 0 && target <= text.length) {
                rows.pushAtPlace(target, target, row);
            }
        }
        rows.remove(first, end);
    }

    private void solveSet(Node node, int at) {
        int first = rows.size;
        solve(node.b, at);
        int end = rows.size;
        for (int row = first; row < end; row++) {
            rows.putVariable(row, node.a, rows.intAt(row));
        }
    }

    private void solveFirst(Node node, int at) {
        int first = rows.size;
        solve(node.b, at);
        rows.size = Math.min(rows.size, first + node.a);
    }

    private void solveIf(Node node, int at) {
        int first = rows.size;
        solve(node.a, at);
        if (rows.size == first) {
            solve(node.c, at);
            return;
        }
        rows.size = first + 1;
        solve(node.b, first);
        rows.remove(first, first + 1);
    }

    private void solveNot(Node node, int at) {
        int first = rows.size;
        solve(node.a, at);
        boolean none = rows.size == first;
        rows.size = first;
        if (none) {
            rows.push(0, at);
        }
    }

    private void solveMost(Node node, int at) {
        int first = rows.size;
        solve(node.a, at);
        int end = rows.size;
        if (end == first) {
            return;
        }
        int greatest = first;
        for (int row = first + 1; row < end; row++) {
            if (rows.intAt(row) > rows.intAt(greatest)) {
                greatest = row;
            }
        }
        rows.copy(greatest, first);
        rows.size = first + 1;
    }

    private void solvePairs(Node node, int at) {
        int firstX = rows.size;
        solve(node.a, at);
        int endX = rows.size;
        for (int x = firstX; x < endX; x++) {
            int firstY = rows.size;
            solve(node.b, x);
            int endY = rows.size;
            for (int y = firstY; y < endY; y++) {
                pushPair(node.kind, rows.intAt(x), y);
            }
            rows.remove(firstY, endY);
        }
        rows.remove(firstX, endX);
    }

    private void pushPair(int kind, int x, int row) {
        int y = rows.intAt(row);
        switch (kind) {
            case ADD:
                rows.push(x + y, row);
                break;
            case SUB:
                rows.push(x - y, row);
                break;
            case MUL:
                rows.push(x * y, row);
                break;
            case LESS:
                if (x < y) {
                    rows.push(y, row);
                }
                break;
            case SAME:
                if (x == y) {
                    rows.push(y, row);
                }
                break;
            case TO:
                pushSeries(x, y, row);
                break;
            default:
                rows.push(y, row);
                break;
        }
    }

    private void pushSeries(int x, int y, int row) {
        // Counted in longs: an int would wrap behind the greatest y and never pass it.
        long last = Math.min((long) y, (long) x + SERIES_LIMIT - 1);
        for (long i = x; i <= last; i++) {
            rows.push((int) i, row);
        }
    }

    /** THE TEXT. */
    private static final class Text {
        final int[] characters = new int[CHARACTER_LIMIT];
        int length;

        void append(int character) {
            characters[length] = character;
            length++;
        }

        boolean isOf(int p, int sort) {
            return p >= 0 && p < length && isOfSort(characters[p], sort);
        }

        /** The place behind the characters of the SORT that follow one another from a place on, at most so many. */
        int behindRun(int from, int sort, int most) {
            int end = Math.min(length, from + most);
            for (int p = from; p < end; p++) {
                if (!isOfSort(characters[p], sort)) {
                    return p;
                }
            }
            return end;
        }

        int decimal(int from, int behind) {
            int number = 0;
            for (int p = from; p < behind; p++) {
                number = number * 10 + characters[p] - '0';
            }
            return number;
        }

        static boolean isOfSort(int character, int sort) {
            switch (sort) {
                case DIGITS:
                    return isDigit(character);
                case LETTERS:
                    return isLetter(character);
                case LETTERS_OR_DIGITS:
                    return isLetter(character) || isDigit(character);
                case BLANKS:
                    return character == ' ' || character == '\t';
                case ALL:
                    return true;
                default:
                    return character == sort - JUST;
            }
        }

        static boolean isDigit(int character) {
            return character >= '0' && character <= '9';
        }

        static boolean isLetter(int character) {
            return character >= 'a' && character <= 'z';
        }
    }

    /** A node's kind and operands as they were given, and what follows from them. */
    private static final class Node {
        int kind;
        int a;
        int b;
        int c;
        int bound;
        int work;
        int level;
        boolean used;

        void fill(int newKind, int newA, int newB, int newC) {
            kind = newKind;
            a = newA;
            b = newB;
            c = newC;
            used = false;
        }
    }

    /** Rows of RESULTS in one array that is made once: each an int, then its STATE's place and variables. */
    private static final class Rows {
        static final int PLACE_CELL = 1;
        static final int VARIABLES_CELL = 2;
        static final int WIDTH = VARIABLES_CELL + VARIABLE_LIMIT;

        final int[] cells;
        final int limit;
        int size;

        Rows(int most) {
            cells = new int[most * WIDTH];
            limit = most;
        }

        boolean has(int row) {
            return row >= 0 && row < size;
        }

        int intAt(int row) {
            return cells[row * WIDTH];
        }

        int placeAt(int row) {
            return cells[row * WIDTH + PLACE_CELL];
        }

        int variableAt(int row, int v) {
            return cells[row * WIDTH + VARIABLES_CELL + v];
        }

        void putVariable(int row, int v, int value) {
            cells[row * WIDTH + VARIABLES_CELL + v] = value;
        }

        /** A new row on top, with the STATE of the row from. */
        void push(int value, int from) {
            // The BOUNDS keep the rows within the limit; the look keeps the array safe whatever comes.
            if (size >= limit) {
                return;
            }
            System.arraycopy(cells, from * WIDTH, cells, size * WIDTH, WIDTH);
            cells[size * WIDTH] = value;
            size++;
        }

        /** A new row on top, with the STATE of the row from but another place. */
        void pushAtPlace(int value, int newPlace, int from) {
            int row = size;
            push(value, from);
            if (row < size) {
                cells[row * WIDTH + PLACE_CELL] = newPlace;
            }
        }

        void copy(int from, int to) {
            System.arraycopy(cells, from * WIDTH, cells, to * WIDTH, WIDTH);
        }

        /** Takes out the rows from first up to end; those behind them move down. */
        void remove(int first, int end) {
            System.arraycopy(cells, end * WIDTH, cells, first * WIDTH, (size - end) * WIDTH);
            size -= end - first;
        }

        /** Becomes the rows of another from first on, at most so many of them. */
        void takeFrom(Rows other, int first, int most) {
            size = Math.min(Math.min(most, limit), other.size - first);
            System.arraycopy(other.cells, first * WIDTH, cells, 0, size * WIDTH);
        }

        int countAtPlace(int place) {
            int found = 0;
            for (int row = 0; row < size; row++) {
                if (placeAt(row) == place) {
                    found++;
                }
            }
            return found;
        }
    }
}
