/** Promise 6: what the kinds 17 .. 21 give. */
final class Promise06ChoiceKindsTest {
    public static void main(String[] args) {
        Check check = new Check();
        set(check);
        first(check);
        choice(check);
        not(check);
        most(check);
        check.end();
    }

    private static void set(Check check) {
        for (int v = 0; v < 4; v++) {
            Build build = new Build("a");
            check.due("SET " + v, build.evaluated(build.set(v, build.one(Build.ALL))), "97@1/" + v + "=97");
        }
        Build build = new Build("");
        check.due("SET each", build.evaluated(build.set(1, build.series(4, 6))), "4@0/1=4 5@0/1=5 6@0/1=6");
        check.due("SET nothing", build.evaluated(build.set(1, build.nothing())), "");
        int more = build.set(2, build.add(build.variable(2), build.number(1)));
        int twice = build.then(build.set(2, build.number(5)), more);
        check.due("SET again", build.evaluated(twice), "6@0/2=6");
        int inner = build.set(0, build.set(1, build.number(-3)));
        check.due("SET of SET", build.evaluated(inner), "-3@0/0=-3/1=-3");
    }

    private static void first(Check check) {
        Build build = new Build("ab");
        check.due("FIRST 1", build.evaluated(build.first(1, build.series(4, 6))), "4@0");
        check.due("FIRST 2", build.evaluated(build.first(2, build.series(4, 6))), "4@0 5@0");
        check.due("FIRST 3 of 3", build.evaluated(build.first(3, build.series(4, 6))), "4@0 5@0 6@0");
        check.due("FIRST 8 of 3", build.evaluated(build.first(8, build.series(4, 6))), "4@0 5@0 6@0");
        check.due("FIRST of nothing", build.evaluated(build.first(8, build.nothing())), "");
        int states = build.first(1, build.or(build.set(0, build.one(Build.ALL)), build.number(1)));
        check.due("FIRST keeps its STATE", build.evaluated(states), "97@1/0=97");
        int inner = build.or(build.number(9), build.first(2, build.series(4, 6)));
        check.due("FIRST behind another", build.evaluated(inner), "9@0 4@0 5@0");
        int each = build.add(build.either(10, 20), build.first(2, build.series(4, 6)));
        check.due("FIRST in each STATE", build.evaluated(each), "14@0 15@0 24@0 25@0");
    }

    private static void choice(Check check) {
        Build build = new Build("ab");
        int yes = build.iff(build.set(0, build.one(Build.LETTERS)), build.one(Build.ALL), build.number(5));
        check.due("IF yes, in a's STATE", build.evaluated(yes), "98@2/0=97");
        int no = build.iff(build.one(Build.DIGITS), build.number(4), build.one(Build.ALL));
        check.due("IF no, in s", build.evaluated(no), "97@1");
        int several = build.iff(build.set(1, build.series(4, 6)), build.either(1, 2), build.number(5));
        check.due("IF takes a's first one alone", build.evaluated(several), "1@0/1=4 2@0/1=4");
        int failing = build.iff(build.series(4, 6), build.nothing(), build.number(5));
        check.due("IF does not try c when b fails", build.evaluated(failing), "");
        int laterOnly = build.iff(build.either(1, 2), build.same(build.number(1), build.number(2)), build.number(7));
        check.due("IF does not try a again", build.evaluated(laterOnly), "");
        int empty = build.iff(build.nothing(), build.number(1), build.nothing());
        check.due("IF no, without c", build.evaluated(empty), "");
        int zero = build.iff(build.number(0), build.number(1), build.number(2));
        check.due("IF 0 is a RESULT too", build.evaluated(zero), "1@0");
        int undone = build.iff(build.then(build.set(0, build.one(Build.ALL)), build.nothing()), build.number(1),
            build.add(build.variable(0), build.place()));
        check.due("IF takes back what a did", build.evaluated(undone), "0@0");
    }

    private static void not(Check check) {
        Build build = new Build("ab");
        check.due("NOT of none", build.evaluated(build.not(build.nothing())), "0@0");
        check.due("NOT of one", build.evaluated(build.not(build.number(0))), "");
        check.due("NOT of some", build.evaluated(build.not(build.series(1, 3))), "");
        int further = build.then(build.set(1, build.one(Build.ALL)), build.not(build.one(Build.DIGITS)));
        check.due("NOT stays", build.evaluated(further), "0@1/1=97");
        int undone = build.not(build.then(build.set(0, build.one(Build.ALL)), build.one(Build.DIGITS)));
        check.due("NOT takes back", build.evaluated(undone), "0@0");
        int behind = build.or(build.number(3), build.not(build.number(4)));
        check.due("NOT behind another", build.evaluated(behind), "3@0");
    }

    private static void most(Check check) {
        Build build = new Build("abc");
        check.due("MOST of rising ones", build.evaluated(build.most(build.series(4, 6))), "6@0");
        int falling = build.sub(build.number(0), build.series(4, 6));
        check.due("MOST of falling ones", build.evaluated(build.most(falling)), "-4@0");
        check.due("MOST of nothing", build.evaluated(build.most(build.nothing())), "");
        check.due("MOST of far ones",
            build.evaluated(build.most(build.either(Integer.MIN_VALUE, Integer.MAX_VALUE))), Integer.MAX_VALUE + "@0");
        check.due("MOST of the least",
            build.evaluated(build.most(build.number(Integer.MIN_VALUE))), Integer.MIN_VALUE + "@0");
        int equal = build.or(build.set(0, build.number(9)), build.set(1, build.number(9)));
        check.due("MOST of equal ones", build.evaluated(build.most(build.or(build.number(1), equal))), "9@0/0=9");
        int each = build.then(build.go(build.series(0, 2)), build.most(build.or(build.place(), build.one(Build.ALL))));
        check.due("MOST in each STATE", build.evaluated(each), "97@1 98@2 99@3");
    }
}
