import java.util.ArrayList;
import java.util.List;
import java.util.function.BiConsumer;

/** The document once more, written the plain way with lists and objects, to compare the class with. */
final class Model {
    private static final int REFUSED = -1;
    private static final long NONE = 1000000000000L;

    private record State(int place, List<Integer> variables) {
        State at(int newPlace) {
            return new State(newPlace, variables);
        }

        State with(int v, int value) {
            List<Integer> changed = new ArrayList<>(variables);
            changed.set(v, value);
            return new State(place, List.copyOf(changed));
        }
    }

    private record Result(int value, State state) {
    }

    private static final class Node {
        final int kind;
        final int a;
        final List<Node> parts = new ArrayList<>();
        boolean used;
        long bound;
        long work;
        int level = 1;

        Node(int kind, int a) {
            this.kind = kind;
            this.a = a;
        }
    }

    private final StringBuilder text = new StringBuilder();
    private final List<Node> nodes = new ArrayList<>();
    private List<Result> results = List.of();
    private int lengthThen;

    int type(int c) {
        if (c < 0 || c > 255 || text.length() == 24) {
            return REFUSED;
        }
        text.append((char) c);
        return text.length();
    }

    int wipe() {
        int before = text.length();
        text.setLength(0);
        return before;
    }

    int clear() {
        int before = nodes.size();
        nodes.clear();
        return before;
    }

    int node(int kind, int a, int b, int c) {
        if (kind < 0 || kind > 21 || nodes.size() == 60 || !plainOperandIsRight(kind, a)) {
            return REFUSED;
        }
        Node made = new Node(kind, a);
        for (int number : operands(kind, a, b, c)) {
            if (!exists(number) || nodes.get(number).used || made.parts.contains(nodes.get(number))) {
                return REFUSED;
            }
            made.parts.add(nodes.get(number));
        }
        measure(made);
        if (made.bound > 64 || made.work > 2000 || made.level > 8) {
            return REFUSED;
        }
        for (Node part : made.parts) {
            part.used = true;
        }
        nodes.add(made);
        return nodes.size() - 1;
    }

    int evaluate(int node) {
        return keep(node, Integer.MAX_VALUE);
    }

    int attempt(int node) {
        return keep(node, 1);
    }

    long result(int k) {
        return hasResult(k) ? results.get(k).value : NONE;
    }

    int place(int k) {
        return hasResult(k) ? results.get(k).state.place : REFUSED;
    }

    long variable(int k, int v) {
        return hasResult(k) && v >= 0 && v <= 3 ? results.get(k).state.variables.get(v) : NONE;
    }

    int bound(int node) {
        return exists(node) ? (int) nodes.get(node).bound : REFUSED;
    }

    int level(int node) {
        return exists(node) ? nodes.get(node).level : REFUSED;
    }

    boolean used(int node) {
        return exists(node) && nodes.get(node).used;
    }

    int count(int what) {
        return switch (what) {
            case 0 -> nodes.size();
            case 1 -> text.length();
            case 2 -> results.size();
            case 3 -> (int) results.stream().filter(result -> result.state.place == lengthThen).count();
            default -> REFUSED;
        };
    }

    private boolean exists(int node) {
        return node >= 0 && node < nodes.size();
    }

    private boolean hasResult(int k) {
        return k >= 0 && k < results.size();
    }

    private int keep(int node, int most) {
        if (!exists(node)) {
            return REFUSED;
        }
        List<Result> all = solve(nodes.get(node), new State(0, List.of(0, 0, 0, 0)));
        results = all.subList(0, Math.min(most, all.size()));
        lengthThen = text.length();
        return results.size();
    }

    private static boolean plainOperandIsRight(int kind, int a) {
        return switch (kind) {
            case 1, 17 -> a >= 0 && a <= 3;
            case 4, 5, 7 -> a >= 0 && a <= 4 || a >= 256 && a <= 511;
            case 18 -> a >= 1 && a <= 8;
            default -> true;
        };
    }

    private static List<Integer> operands(int kind, int a, int b, int c) {
        return switch (kind) {
            case 8, 20, 21 -> List.of(a);
            case 9, 10, 11, 12, 13, 14, 15, 16 -> List.of(a, b);
            case 17, 18 -> List.of(b);
            case 19 -> List.of(a, b, c);
            default -> List.of();
        };
    }

    private static void measure(Node made) {
        long sum = 0;
        for (Node part : made.parts) {
            sum += part.work;
            made.level = Math.max(made.level, part.level + 1);
        }
        Node first = made.parts.isEmpty() ? null : made.parts.get(0);
        Node second = made.parts.size() < 2 ? null : made.parts.get(1);
        switch (made.kind) {
            case 0, 1, 2, 3, 4, 5, 6, 20, 21 -> limits(made, 1, 1 + sum);
            case 7 -> limits(made, 8, 8);
            case 8, 17 -> limits(made, first.bound, 1 + sum);
            case 14 -> limits(made, 8 * first.bound * second.bound, 8 * (1 + first.work + first.bound * second.work));
            case 15 -> limits(made, first.bound + second.bound, 1 + sum);
            case 18 -> limits(made, Math.min(made.a, first.bound), 1 + sum);
            case 19 -> limits(made, Math.max(second.bound, made.parts.get(2).bound), 1 + sum);
            default -> limits(made, first.bound * second.bound, 1 + first.work + first.bound * second.work);
        }
    }

    private static void limits(Node made, long bound, long work) {
        made.bound = bound;
        made.work = work;
    }

    private boolean isOf(int sort, int c) {
        boolean digit = c >= 48 && c <= 57;
        boolean letter = c >= 97 && c <= 122;
        return switch (sort) {
            case 0 -> digit;
            case 1 -> letter;
            case 2 -> digit || letter;
            case 3 -> c == 32 || c == 9;
            case 4 -> true;
            default -> c + 256 == sort;
        };
    }

    private List<Result> solve(Node node, State s) {
        List<Result> made = new ArrayList<>();
        int p = s.place;
        switch (node.kind) {
            case 0 -> made.add(new Result(node.a, s));
            case 1 -> made.add(new Result(s.variables.get(node.a), s));
            case 2 -> made.add(new Result(p, s));
            case 3 -> made.add(new Result(text.length(), s));
            case 4, 5, 6 -> read(node, s, made);
            case 7 -> {
                for (int i = p; i < text.length(); i++) {
                    if (isOf(node.a, text.charAt(i)) && made.size() < 8) {
                        made.add(new Result(i, s));
                    }
                }
            }
            case 15 -> {
                made.addAll(solve(node.parts.get(0), s));
                made.addAll(solve(node.parts.get(1), s));
            }
            case 8, 17, 18, 19, 20, 21 -> choose(node, s, made);
            default -> eachPair(node, s, (x, y) -> join(node.kind, x.value, y, made));
        }
        return made;
    }

    private void read(Node node, State s, List<Result> made) {
        int sort = node.kind == 6 ? 0 : node.a;
        int most = node.kind == 4 ? 1 : node.kind == 6 ? 9 : 24;
        StringBuilder taken = new StringBuilder();
        while (taken.length() < most && s.place + taken.length() < text.length()
            && isOf(sort, text.charAt(s.place + taken.length()))) {
            taken.append(text.charAt(s.place + taken.length()));
        }
        if (taken.length() > 0) {
            int value = switch (node.kind) {
                case 4 -> taken.charAt(0);
                case 5 -> taken.length();
                default -> Integer.parseInt(taken.toString());
            };
            made.add(new Result(value, s.at(s.place + taken.length())));
        }
    }

    private void choose(Node node, State s, List<Result> made) {
        List<Result> first = solve(node.parts.get(0), s);
        switch (node.kind) {
            case 8 -> first.stream().filter(r -> r.value >= 0 && r.value <= text.length())
                .forEach(r -> made.add(new Result(r.value, r.state.at(r.value))));
            case 17 -> first.forEach(r -> made.add(new Result(r.value, r.state.with(node.a, r.value))));
            case 18 -> first.stream().limit(node.a).forEach(made::add);
            case 19 -> made.addAll(first.isEmpty() ? solve(node.parts.get(2), s)
                : solve(node.parts.get(1), first.get(0).state));
            case 20 -> {
                if (first.isEmpty()) {
                    made.add(new Result(0, s));
                }
            }
            default -> first.stream().reduce((one, other) -> other.value > one.value ? other : one)
                .ifPresent(made::add);
        }
    }

    private void eachPair(Node node, State s, BiConsumer<Result, Result> taker) {
        for (Result x : solve(node.parts.get(0), s)) {
            for (Result y : solve(node.parts.get(1), x.state)) {
                taker.accept(x, y);
            }
        }
    }

    private static void join(int kind, int x, Result y, List<Result> made) {
        switch (kind) {
            case 9 -> made.add(new Result(x + y.value, y.state));
            case 10 -> made.add(new Result(x - y.value, y.state));
            case 11 -> made.add(new Result(x * y.value, y.state));
            case 14 -> {
                for (int i = 0; i < 8 && (long) x + i <= y.value; i++) {
                    made.add(new Result(x + i, y.state));
                }
            }
            default -> {
                boolean holds = kind == 16 || (kind == 12 ? x < y.value : x == y.value);
                if (holds) {
                    made.add(y);
                }
            }
        }
    }
}
