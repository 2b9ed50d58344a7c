/** Promises 1 to 6: a new object, leaf, named, made, match, terms. */
public final class TermsTest {
    private static final Class<?> ARGUMENT = IllegalArgumentException.class;
    private static final Class<?> INDEX = IndexOutOfBoundsException.class;
    private static final Class<?> STATE = IllegalStateException.class;

    public static void main(String[] args) {
        newObject();
        leaves();
        namedTerms();
        madeTerms();
        cases();
        mostTerms();
        mostWeight();
        Due.end();
    }

    private static void newObject() {
        Due d = new Due();
        Due.due("terms", d.x.terms(), 0);
        Due.due("errorAt", d.x.errorAt(), -1);
        Due.due("steps", d.x.steps(), 0);
        Due.due("result", (int) d.x.result(0), 32);
        d.dueThrow("check 0", INDEX, () -> d.x.check(0));
        d.dueThrow("run 0", INDEX, () -> d.x.run(0));
        d.number(1);
        Due other = new Due();
        Due.due("terms of another object", other.x.terms(), 0);
    }

    private static void leaves() {
        Due d = new Due();
        int number = 0;
        for (int[] good : new int[][] {{0, -99}, {0, 99}, {0, 0}, {1, 0}, {1, 9},
                {6, Integer.MIN_VALUE}, {6, 3}, {15, Integer.MAX_VALUE}, {15, -1}}) {
            Due.due("leaf", d.x.leaf(good[0], good[1]), number);
            number++;
            Due.due("terms", d.x.terms(), number);
        }
        for (int[] wrong : new int[][] {{0, -100}, {0, 100}, {0, Integer.MIN_VALUE}, {1, -1},
                {1, 10}, {-1, 0}, {2, 0}, {3, 0}, {4, 0}, {5, 0}, {7, 0}, {8, 0}, {9, 0}, {10, 0},
                {11, 0}, {12, 0}, {13, 0}, {14, 0}, {16, 0}, {17, 0}, {18, 0},
                {Integer.MIN_VALUE, 0}, {Integer.MAX_VALUE, 0}}) {
            d.dueThrow("leaf " + wrong[0] + " " + wrong[1], ARGUMENT,
                    () -> d.x.leaf(wrong[0], wrong[1]));
        }
        d.dueDone(0, "-99 1");
        d.dueDone(1, "99 1");
        d.dueDone(6, "{} 1");
        d.dueError(3, 1, 3);
    }

    private static void namedTerms() {
        Due d = new Due();
        int five = d.number(5);
        int none = d.noCase();
        int number = 2;
        for (int kind : new int[] {2, 4, 5, 7, 8, 9, 10, 16}) {
            boolean two = kind == 4 || kind == 5 || kind == 7;
            for (int which : new int[] {0, 9}) {
                Due.due("named " + kind, d.x.named(kind, which, five, two ? five : 99), number);
                number++;
            }
            for (int which : new int[] {-1, 10, Integer.MIN_VALUE, Integer.MAX_VALUE}) {
                d.dueThrow("named " + kind, ARGUMENT, () -> d.x.named(kind, which, five, five));
                d.dueThrow("named " + kind, ARGUMENT, () -> d.x.named(kind, which, -1, -1));
            }
            for (int wrong : new int[] {-1, 120, Integer.MIN_VALUE, none}) {
                d.dueThrow("named " + kind, INDEX, () -> d.x.named(kind, 0, wrong, five));
                if (two) {
                    d.dueThrow("named " + kind, INDEX, () -> d.x.named(kind, 0, five, wrong));
                }
            }
            int next = d.x.terms();
            d.dueThrow("itself", INDEX, () -> d.x.named(kind, 0, next, five));
        }
        for (int kind : new int[] {-1, 0, 1, 3, 6, 11, 12, 13, 14, 15, 17, Integer.MAX_VALUE}) {
            d.dueThrow("named " + kind, ARGUMENT, () -> d.x.named(kind, 0, five, five));
            d.dueThrow("named " + kind, ARGUMENT, () -> d.x.named(kind, 0, -1, -1));
        }
        int rest = d.rest(0, five);
        int more = d.oneCase(0, 0, five, none);
        d.dueThrow("a REST in a FUN", INDEX, () -> d.x.named(2, 0, rest, 0));
        d.dueThrow("a CASE in a REST", INDEX, () -> d.x.named(16, 0, more, 0));
        d.dueThrow("a CASE in a WITH", INDEX, () -> d.x.named(7, 0, five, more));
    }

    private static void madeTerms() {
        Due d = new Due();
        int five = d.number(5);
        int none = d.noCase();
        int rest = d.rest(0, five);
        int one = d.oneCase(1, 0, five, rest);
        int number = 4;
        for (int kind : new int[] {3, 13, 14}) {
            Due.due("made " + kind, d.x.made(kind, five, five, 99), number);
            number++;
            for (int wrong : new int[] {-1, 120, Integer.MAX_VALUE, none, rest, one}) {
                d.dueThrow("made " + kind, INDEX, () -> d.x.made(kind, wrong, five, five));
                d.dueThrow("made " + kind, INDEX, () -> d.x.made(kind, five, wrong, five));
            }
        }
        Due.due("made 12", d.x.made(12, five, five, five), number);
        number++;
        for (int wrong : new int[] {-1, 120, Integer.MIN_VALUE, none, rest, one}) {
            d.dueThrow("made 12", INDEX, () -> d.x.made(12, wrong, five, five));
            d.dueThrow("made 12", INDEX, () -> d.x.made(12, five, wrong, five));
            d.dueThrow("made 12", INDEX, () -> d.x.made(12, five, five, wrong));
            d.dueThrow("made 11", INDEX, () -> d.x.made(11, wrong, none, five));
        }
        for (int good : new int[] {none, rest, one}) {
            Due.due("made 11", d.x.made(11, five, good, -1), number);
            number++;
        }
        for (int wrong : new int[] {-1, 120, five, number}) {
            d.dueThrow("made 11", INDEX, () -> d.x.made(11, five, wrong, five));
        }
        for (int kind : new int[] {-1, 0, 1, 2, 4, 5, 6, 7, 8, 9, 10, 15, 16, 17, 18}) {
            d.dueThrow("made " + kind, ARGUMENT, () -> d.x.made(kind, five, five, five));
            d.dueThrow("made " + kind, ARGUMENT, () -> d.x.made(kind, -1, -1, -1));
        }
    }

    private static void cases() {
        Due d = new Due();
        int five = d.number(5);
        int none = d.noCase();
        int rest = d.rest(0, five);
        Due.due("match", d.x.match(0, 9, five, none), 3);
        Due.due("match", d.x.match(9, 0, five, rest), 4);
        Due.due("match", d.x.match(9, 0, five, 4), 5);
        for (int wrong : new int[] {-1, 10, Integer.MIN_VALUE, Integer.MAX_VALUE}) {
            d.dueThrow("match", ARGUMENT, () -> d.x.match(wrong, 0, five, none));
            d.dueThrow("match", ARGUMENT, () -> d.x.match(0, wrong, five, none));
            d.dueThrow("match", ARGUMENT, () -> d.x.match(wrong, 0, -1, -1));
        }
        for (int wrong : new int[] {-1, 6, Integer.MAX_VALUE, none, rest, 3}) {
            d.dueThrow("match", INDEX, () -> d.x.match(0, 0, wrong, none));
        }
        for (int wrong : new int[] {-1, 6, Integer.MIN_VALUE, five}) {
            d.dueThrow("match", INDEX, () -> d.x.match(0, 0, five, wrong));
        }
    }

    private static void mostTerms() {
        Due d = new Due();
        int five = d.number(5);
        int none = d.noCase();
        for (int number = 2; number < 120; number++) {
            Due.due("leaf", d.x.leaf(1, number % 10), number);
        }
        Due.due("terms", d.x.terms(), 120);
        d.dueThrow("leaf", STATE, () -> d.x.leaf(0, 1));
        d.dueThrow("leaf", STATE, () -> d.x.leaf(15, 1));
        d.dueThrow("named", STATE, () -> d.x.named(2, 1, five, 0));
        d.dueThrow("made", STATE, () -> d.x.made(3, five, five, 0));
        d.dueThrow("match", STATE, () -> d.x.match(3, 1, five, none));
        d.dueThrow("leaf", ARGUMENT, () -> d.x.leaf(0, 100));
        d.dueThrow("named", ARGUMENT, () -> d.x.named(2, 10, five, 0));
        d.dueThrow("named", INDEX, () -> d.x.named(2, 1, 120, 0));
        d.dueThrow("made", ARGUMENT, () -> d.x.made(2, five, five, 0));
        d.dueThrow("made", INDEX, () -> d.x.made(3, five, none, 0));
        d.dueThrow("match", ARGUMENT, () -> d.x.match(3, -1, five, none));
        d.dueThrow("match", INDEX, () -> d.x.match(3, 1, five, five));
        Due.due("check", d.x.check(119), 1);
        Due.due("errorAt", d.x.errorAt(), 119);
    }

    /** A chain of AS is as heavy as it is long. */
    private static int chain(Due d, int weight) {
        int term = d.number(5);
        for (int more = 1; more < weight; more++) {
            term = d.as(3, term);
        }
        return term;
    }

    private static void mostWeight() {
        Due d = new Due();
        int none = d.noCase();
        int thirty = chain(d, 30);
        Due.due("a weight of 30", d.x.check(thirty), 0);
        int half = chain(d, 14);
        int five = d.number(5);
        for (int kind : new int[] {2, 8, 9, 10, 16}) {
            d.dueThrow("named " + kind, STATE, () -> d.x.named(kind, 0, thirty, 0));
        }
        d.dueThrow("match", STATE, () -> d.x.match(0, 0, thirty, none));
        int more = d.as(3, half);
        int both = d.with(1, half, more);
        Due.due("14 and 15 and 1", d.x.terms() - 1, both);
        for (int kind : new int[] {4, 5, 7}) {
            d.dueThrow("named " + kind, STATE, () -> d.x.named(kind, 0, more, more));
        }
        for (int kind : new int[] {3, 13, 14}) {
            d.dueThrow("made " + kind, STATE, () -> d.x.made(kind, more, more, 0));
        }
        d.dueThrow("made 12", STATE, () -> d.x.made(12, five, half, more));
        Due.due("1 and 14 and 14 and 1", d.choose(five, half, half), d.x.terms() - 1);
        int long28 = d.as(3, d.as(3, d.as(3, d.as(3, d.as(3, d.as(3, chain(d, 22)))))));
        int heaviest = d.oneCase(0, 0, long28, none);
        Due.due("28 and 1 and 1", d.x.terms() - 1, heaviest);
        d.dueThrow("match", STATE, () -> d.x.match(1, 0, five, heaviest));
        int body = chain(d, 13);
        int cases = d.oneCase(0, 0, body, none);
        d.dueThrow("made 11", STATE, () -> d.x.made(11, more, cases, 0));
        int whole = d.match(half, cases);
        Due.due("14 and 15 and 1", d.x.terms() - 1, whole);
        d.dueThrow("match", STATE, () -> d.x.match(1, 0, more, cases));
        d.dueThrow("of several the first", INDEX, () -> d.x.named(7, 0, thirty, -1));
        d.dueThrow("of several the first", ARGUMENT, () -> d.x.named(7, 10, thirty, -1));
    }
}
