/** Promises 12 to 16: run, steps, result, agrees, places. */
public final class DoingTest {
    private static final Class<?> ARGUMENT = IllegalArgumentException.class;
    private static final Class<?> INDEX = IndexOutOfBoundsException.class;
    private static final Class<?> STATE = IllegalStateException.class;

    public static void main(String[] args) {
        wrongInputs();
        numbers();
        functions();
        lets();
        recursion();
        records();
        variants();
        sameness();
        exactlyThousand();
        longResults();
        latestResult();
        openRecords();
        manyPlaces();
        openVariants();
        nestedPlaces();
        places();
        Due.end();
    }

    private static void wrongInputs() {
        Due d = new Due();
        int five = d.number(5);
        int none = d.noCase();
        int bad = d.give(five, five);
        int let = d.let(0, five, five);
        int badLet = d.let(0, five, bad);
        for (int wrong : new int[] {-1, 5, 120, Integer.MIN_VALUE, Integer.MAX_VALUE}) {
            d.dueThrow("run", INDEX, () -> d.x.run(wrong));
            d.dueThrow("agrees", INDEX, () -> d.x.agrees(wrong));
            d.dueThrow("places", INDEX, () -> d.x.places(wrong, five));
            d.dueThrow("places", INDEX, () -> d.x.places(five, wrong));
            d.dueThrow("places", INDEX, () -> d.x.places(let, wrong));
        }
        for (int wrong : new int[] {-1, Integer.MIN_VALUE}) {
            d.dueThrow("result", INDEX, () -> d.x.result(wrong));
        }
        for (int untyped : new int[] {none, bad, badLet}) {
            d.dueThrow("run", STATE, () -> d.x.run(untyped));
            d.dueThrow("agrees", STATE, () -> d.x.agrees(untyped));
            d.dueThrow("places", STATE, () -> d.x.places(let, untyped));
            d.dueThrow("places", ARGUMENT, () -> d.x.places(five, untyped));
        }
        for (int wrong : new int[] {five, none, bad}) {
            d.dueThrow("places", ARGUMENT, () -> d.x.places(wrong, five));
        }
        Due.due("a LET without a type", d.x.places(badLet, five), -1);
        Due.due("result", (int) d.x.result(Integer.MAX_VALUE), 32);
    }

    private static void numbers() {
        Due d = new Due();
        int most = d.number(99);
        d.dueDone(d.number(-99), "-99 1");
        d.dueDone(d.number(0), "0 1");
        d.dueDone(d.number(-7), "-7 1");
        d.dueDone(d.plus(most, d.plus(most, most)), "297 5");
        d.dueDone(d.choose(d.number(0), most, d.number(4)), "4 3");
        d.dueDone(d.choose(d.number(-1), d.number(3), most), "3 3");
        // 99 doubled 25 times does not fit an int
        int x = d.name(0);
        int count = d.name(1);
        int again = d.give(d.name(2), d.plus(count, d.number(-1)));
        int twice = d.let(0, again, d.plus(x, x));
        int fun = d.fun(1, d.choose(count, twice, most));
        int overflow = d.rec(2, fun, d.give(d.name(2), d.number(25)));
        int due = 99;
        for (int time = 0; time < 25; time++) {
            due += due;
        }
        Due.due("an overflow", due, -973078528);
        d.dueDone(overflow, due + " " + (5 + 25 * 12 + 3));
    }

    private static void functions() {
        Due d = new Due();
        int x = d.name(0);
        int y = d.name(1);
        d.dueDone(d.fun(0, x), "F 1");
        d.dueDone(d.give(d.fun(0, x), d.number(3)), "3 4");
        int first = d.fun(0, d.fun(1, x));
        d.dueDone(d.give(d.give(first, d.number(3)), d.number(4)), "3 7");
        d.dueDone(d.give(first, d.number(4)), "F 4");
        d.dueDone(d.record(first), "{0:F} 3");
        // names are those around the FUN, not those where it is given something
        int outer = d.let(0, d.number(1), d.let(1, d.fun(2, x), d.let(0, d.number(2),
                d.give(y, d.number(3)))));
        d.dueDone(outer, "1 10");
        int own = d.fun(0, d.let(0, d.plus(x, d.number(1)), d.plus(x, x)));
        d.dueDone(d.give(own, d.number(4)), "10 10");
    }

    private static void lets() {
        Due d = new Due();
        int x = d.name(0);
        int seven = d.plus(d.number(3), d.number(4));
        d.dueDone(d.let(0, seven, d.plus(x, x)), "14 7");
        d.dueDone(d.let(0, seven, d.number(1)), "1 5");
        d.dueDone(d.rec(0, seven, d.plus(x, x)), "14 7");
        d.dueDone(d.let(0, seven, d.let(0, d.plus(x, x), x)), "14 9");
        int endless = d.rec(1, d.name(1), d.name(1));
        d.dueDone(d.let(0, endless, d.number(1)), "too far 1000");
        d.dueDone(d.choose(d.number(0), endless, d.number(2)), "2 3");
        d.dueDone(d.fun(0, endless), "F 1");
    }

    private static void recursion() {
        Due d = new Due();
        int n = d.name(0);
        int f = d.name(1);
        int less = d.plus(n, d.number(-1));
        int sum = d.fun(0, d.choose(n, d.plus(n, d.give(f, less)), d.number(0)));
        d.dueDone(d.rec(1, sum, d.give(f, d.number(9))), "45 98");
        d.dueDone(d.rec(1, sum, d.give(f, d.number(0))), "0 8");
        d.dueDone(d.rec(1, sum, d.give(f, d.number(99))), "4950 998");
        d.dueDone(d.rec(1, sum, f), "F 3");
        int forever = d.rec(1, d.fun(0, d.give(f, n)), d.give(f, d.number(1)));
        d.dueDone(forever, "too far 1000");
        // e of a REC that is a record, done anew for each of its labels
        int record = d.record(d.number(4), d.fun(0, d.choose(n, d.of(0, f), d.number(8))));
        int use = d.give(d.of(1, f), d.number(1));
        d.dueDone(d.rec(1, record, use), "4 " + (1 + 5 + 4 + 3 + 6));
    }

    private static void records() {
        Due d = new Due();
        int record = d.with(5, d.number(1), d.with(0, d.number(2), d.with(9, d.number(3),
                d.empty())));
        d.dueDone(record, "{0:2,5:1,9:3} 7");
        d.dueDone(d.of(5, record), "1 8");
        d.dueDone(d.of(0, record), "2 8");
        d.dueDone(d.of(9, record), "3 8");
        d.dueDone(d.without(0, record), "{5:1,9:3} 8");
        d.dueDone(d.without(9, d.without(0, record)), "{5:1} 9");
        d.dueDone(d.without(5, d.without(9, d.without(0, record))), "{} 10");
        d.dueDone(d.with(0, d.number(-4), d.without(0, record)), "{0:-4,5:1,9:3} 10");
        d.dueDone(d.with(3, record, d.empty()), "{3:{0:2,5:1,9:3}} 9");
    }

    private static void variants() {
        Due d = new Due();
        int x = d.name(0);
        int none = d.noCase();
        int three = d.as(4, d.number(3));
        d.dueDone(three, "[4:3] 2");
        d.dueDone(d.as(2, three), "[2:[4:3]] 3");
        int first = d.oneCase(4, 0, d.plus(x, x), d.oneCase(2, 0, d.number(8), none));
        d.dueDone(d.match(three, first), "6 6");
        d.dueDone(d.match(d.as(2, d.empty()), first), "8 4");
        int rest = d.oneCase(7, 0, d.as(1, d.number(0)), d.rest(0, x));
        d.dueDone(d.match(three, rest), "[4:3] 4");
        d.dueDone(d.match(d.as(7, d.empty()), rest), "[1:0] 5");
        d.dueDone(d.match(three, d.rest(0, x)), "[4:3] 4");
        int again = d.oneCase(4, 0, x, d.oneCase(5, 0, x, none));
        int inner = d.oneCase(2, 0, x, d.rest(0, d.match(x, again)));
        d.dueDone(d.match(three, inner), "3 6");
    }

    private static void sameness() {
        Due d = new Due();
        int three = d.number(3);
        int four = d.number(4);
        d.dueDone(d.same(three, three), "1 4");
        d.dueDone(d.same(three, four), "0 4");
        d.dueDone(d.same(d.empty(), d.empty()), "1 4");
        int one = d.record(three, four, three);
        d.dueDone(d.same(one, one), "1 " + (1 + 7 + 7 + 4));
        int other = d.record(three, three, three);
        d.dueDone(d.same(one, other), "0 " + (1 + 7 + 7 + 3));
        int turned = d.with(1, four, d.with(0, three, d.with(2, three, d.empty())));
        d.dueDone(d.same(one, turned), "1 19");
        d.dueDone(d.same(d.as(3, three), d.as(3, three)), "1 7");
        d.dueDone(d.same(d.as(3, three), d.as(3, four)), "0 7");
        d.dueDone(d.same(d.as(3, three), d.as(2, three)), "0 6");
        int ends = d.with(0, three, d.with(9, three, d.empty()));
        int last = d.with(0, three, d.with(9, four, d.empty()));
        d.dueDone(d.same(ends, last), "0 " + (1 + 5 + 5 + 3));
        d.dueDone(d.same(ends, ends), "1 " + (1 + 5 + 5 + 3));
        int nested = d.record(d.as(1, d.record(three)), four);
        d.dueDone(d.same(nested, nested), "1 " + (1 + 8 + 8 + 5));
        // held against itself, a value of shared parts is held part by part
        d.dueDone(doubledTwice(d, 8), "1 574");
        d.dueDone(doubledTwice(d, 9), "too far 1000");
    }

    private static int doubledTwice(Due d, int times) {
        int value = d.name(2);
        int pair = d.fun(0, d.record(d.name(0), d.name(0)));
        int whole = d.number(0);
        for (int time = 0; time < times; time++) {
            whole = d.give(d.name(1), whole);
        }
        return d.let(1, pair, d.let(2, whole, d.same(value, value)));
    }

    /** 8 + 2 + 8 * 123 steps, and 2 or 3 more for what is around it. */
    private static void exactlyThousand() {
        Due d = new Due();
        int n = d.name(0);
        int f = d.name(1);
        int zero = d.number(0);
        int down = d.give(f, d.plus(n, d.number(-1)));
        int count = d.plus(d.number(99), d.number(24));
        int loop = d.rec(1, d.fun(0, d.choose(n, down, zero)), d.give(f, count));
        d.dueDone(loop, "0 994");
        int id = d.fun(0, n);
        int more = d.give(id, loop);
        d.dueDone(more, "0 997");
        d.dueDone(d.plus(zero, more), "0 999");
        int thousand = d.give(id, more);
        d.dueDone(thousand, "0 1000");
        d.dueDone(d.plus(zero, d.plus(zero, more)), "too far 1000");
        d.dueDone(d.give(id, d.plus(zero, d.plus(zero, loop))), "too far 1000");
        d.dueDone(d.plus(zero, thousand), "too far 1000");
        // the 1000th and the 1001st step are what SAME holds against one another
        d.dueDone(d.same(zero, more), "1 1000");
        d.dueDone(d.same(d.as(1, zero), d.as(1, loop)), "1 1000");
        d.dueDone(d.same(d.record(zero), d.record(loop)), "too far 1000");
    }

    private static void longResults() {
        Due d = new Due();
        int small = d.doubled(4, d.number(-9));
        d.dueDone(small, Due.doubledText(4, "-9") + " " + (2 + 4 * 7 + 1));
        Due l = new Due();
        int large = l.doubled(6, l.number(-9));
        l.dueDone(large, Due.doubledText(6, "-9").substring(0, 300) + " " + (2 + 6 * 7 + 1));
        Due.due("run", l.x.run(large), 300);
        Due.due("the 300th sign", l.x.result(299), Due.doubledText(6, "-9").charAt(299));
        Due.due("behind the 300th sign", (int) l.x.result(300), 32);
        int largest = l.doubled(11, l.number(-9));
        Due.due("run", l.x.run(largest), 300);
    }

    private static void latestResult() {
        Due d = new Due();
        int five = d.number(55);
        int endless = d.rec(1, d.name(1), d.name(1));
        int bad = d.name(3);
        int other = d.plus(five, five);
        Due.due("run", d.x.run(five), 2);
        d.dueThrow("run", STATE, () -> d.x.run(bad));
        Due.due("agrees", d.x.agrees(other), true);
        Due.due("agrees", d.x.agrees(endless), true);
        Due.due("steps", d.x.steps(), 1);
        Due.due("result", "" + d.x.result(0) + d.x.result(1) + d.x.result(2), "55 ");
        Due.due("run", d.x.run(endless), -1);
        Due.due("steps", d.x.steps(), 1000);
        Due.due("result", d.x.result(0), ' ');
        Due.due("run", d.x.run(other), 3);
        Due.due("steps", d.x.steps(), 3);
        Due.due("result", "" + d.x.result(0) + d.x.result(2) + d.x.result(3), "10 ");
        d.number(1);
        d.x.check(bad);
        Due.due("steps", d.x.steps(), 3);
        Due.due("result", d.x.result(1), '1');
    }

    /** Labels stand at unlike places in the records that are handed to one function. */
    private static void openRecords() {
        Due d = new Due();
        int x = d.name(0);
        int f = d.name(1);
        int low = d.with(1, d.number(10), d.empty());
        int high = d.with(5, d.number(20), low);
        int both = d.with(1, d.number(30), d.with(5, d.number(40), d.with(7, d.empty(),
                d.with(0, d.empty(), d.empty()))));
        int of = d.fun(0, d.of(1, x));
        int use = d.let(1, of, d.plus(d.give(f, high), d.give(f, both)));
        d.dueDone(use, "40 " + (3 + 9 + 13));
        Due.due("places", d.x.places(use, use), 1);
        int change = d.fun(0, d.with(4, d.of(1, x), d.without(1, x)));
        int changes = d.let(1, change, d.with(0, d.give(f, high), d.with(1, d.give(f, low),
                d.empty())));
        Due.due("run", d.done(changes).startsWith("{0:{4:10,5:20},1:{4:10}} "), true);
        Due.due("agrees", d.x.agrees(changes), true);
        Due.due("places", d.x.places(changes, changes), 2);
    }

    /** A function of two open records, and one that lacks the least label and others. */
    private static void manyPlaces() {
        Due d = new Due();
        int x = d.name(0);
        int f = d.name(1);
        int one = d.number(1);
        int two = d.number(2);
        int tail = d.with(3, two, d.empty());
        int both = d.fun(0, d.fun(2, d.plus(d.of(5, x), d.of(3, d.name(2)))));
        int first = d.with(5, one, d.with(4, one, tail));
        int second = d.with(0, one, d.with(2, one, d.with(1, one, tail)));
        int use = d.let(1, both, d.give(d.give(f, first), second));
        Due.due("run", d.done(use).startsWith("3 "), true);
        Due.due("agrees", d.x.agrees(use), true);
        Due.due("places", d.x.places(use, use), 2);
        int change = d.fun(0, d.with(0, one, d.with(7, d.of(3, x), d.without(4, x))));
        int changed = d.let(1, change, d.give(f, d.with(8, two, d.with(4, one, tail))));
        Due.due("run", d.done(changed).startsWith("{0:1,3:2,7:2,8:2} "), true);
        Due.due("agrees", d.x.agrees(changed), true);
        Due.due("places", d.x.places(changed, changed), 4);
    }

    private static void openVariants() {
        Due d = new Due();
        int x = d.name(0);
        int f = d.name(1);
        int one = d.number(1);
        int none = d.noCase();
        // what is left by one match is handed to another one, with more cases
        int last = d.match(x, d.oneCase(0, 2, d.number(70), d.oneCase(8, 2, d.name(2), none)));
        int open = d.fun(0, d.match(x, d.oneCase(4, 2, d.as(8, d.number(5)), d.rest(2,
                d.name(2)))));
        int use = d.let(1, open, d.let(0, d.give(f, d.as(0, one)), last));
        Due.due("run", d.done(use).startsWith("70 "), true);
        Due.due("agrees", d.x.agrees(use), true);
        Due.due("places", d.x.places(use, use), 2);
        int other = d.let(1, open, d.let(0, d.give(f, d.as(4, one)), last));
        Due.due("run", d.done(other).startsWith("5 "), true);
        Due.due("agrees", d.x.agrees(other), true);
        int both = d.let(3, d.as(8, d.number(6)), d.let(0, d.name(3), last));
        Due.due("run", d.done(both).startsWith("6 "), true);
        Due.due("agrees", d.x.agrees(both), true);
        Due.due("places", d.x.places(both, both), 1);
    }

    /** Places that were handed in are handed on to a name within. */
    private static void nestedPlaces() {
        Due d = new Due();
        int x = d.name(0);
        int inner = d.let(2, d.fun(0, d.of(3, x)), d.give(d.name(2), d.name(1)));
        int outer = d.fun(1, inner);
        int small = d.with(3, d.number(4), d.empty());
        int large = d.with(2, d.number(5), d.with(1, d.number(6), small));
        int use = d.let(4, outer, d.plus(d.give(d.name(4), small), d.give(d.name(4), large)));
        Due.due("run", d.done(use).startsWith("8 "), true);
        Due.due("agrees", d.x.agrees(use), true);
        Due.due("places of the outer one", d.x.places(use, use), 1);
        Due.due("places of the inner one", d.x.places(inner, use), 1);
        Due.due("places of the inner one", d.x.places(inner, outer), 1);
    }

    private static void places() {
        Due d = new Due();
        int x = d.name(0);
        int f = d.name(1);
        int one = d.number(1);
        int none = d.let(1, d.fun(0, x), d.give(f, one));
        Due.due("places", d.x.places(none, none), 0);
        Due.due("places", d.x.places(none, one), -1);
        int fun = d.fun(0, d.plus(d.of(2, x), d.of(6, x)));
        int two = d.let(1, fun, one);
        Due.due("places", d.x.places(two, two), 2);
        int rec = d.rec(1, fun, one);
        Due.due("places", d.x.places(rec, rec), 2);
        Due.due("places", d.x.places(two, rec), -1);
        // not general: the name that is known around it has the variable in its type
        int fixed = d.let(1, d.of(2, x), one);
        int around = d.fun(0, fixed);
        Due.due("places", d.x.places(fixed, around), 0);
        int row = d.let(1, d.without(2, x), f);
        Due.due("places", d.x.places(row, d.fun(0, row)), 0);
        d.dueThrow("places", STATE, () -> d.x.places(row, row));
        // where x is general, what is left of it has a place; the greatest number counts
        int open = d.rec(0, x, row);
        Due.due("places", d.x.places(row, open), 1);
        Due.due("places", d.x.places(row, d.record(d.give(d.fun(0, row), d.record(one, one, one)),
                open)), 1);
        Due.due("places in a case", d.x.places(two, d.match(d.as(1, one),
                d.oneCase(1, 0, two, d.rest(0, one)))), 2);
        int lacks = d.let(1, d.rec(0, x, d.with(9, one, d.without(0, d.without(5, x)))), one);
        Due.due("places", d.x.places(lacks, lacks), 3);
        Due.due("places", d.x.places(lacks, d.same(lacks, lacks)), 3);
    }
}
