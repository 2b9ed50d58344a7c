/** Promises 7 to 11: check, errorAt, size, sign, areAlike. */
public final class TypesTest {
    private static final Class<?> INDEX = IndexOutOfBoundsException.class;
    private static final Class<?> STATE = IllegalStateException.class;

    public static void main(String[] args) {
        wrongInputs();
        plainTypes();
        names();
        generalNames();
        records();
        variants();
        comparables();
        unlike();
        endless();
        rowErrors();
        orderOfErrors();
        errorAtStays();
        longTexts();
        manyVariables();
        alike();
        Due.end();
    }

    private static void wrongInputs() {
        Due d = new Due();
        int five = d.number(5);
        int none = d.noCase();
        int bad = d.name(4);
        for (int wrong : new int[] {-1, 3, 120, Integer.MIN_VALUE, Integer.MAX_VALUE}) {
            d.dueThrow("check", INDEX, () -> d.x.check(wrong));
            d.dueThrow("size", INDEX, () -> d.x.size(wrong));
            d.dueThrow("sign", INDEX, () -> d.x.sign(wrong, 0));
            d.dueThrow("areAlike", INDEX, () -> d.x.areAlike(wrong, five));
            d.dueThrow("areAlike", INDEX, () -> d.x.areAlike(five, wrong));
            d.dueThrow("areAlike", INDEX, () -> d.x.areAlike(bad, wrong));
        }
        d.dueThrow("sign", INDEX, () -> d.x.sign(five, -1));
        d.dueThrow("sign", INDEX, () -> d.x.sign(bad, Integer.MIN_VALUE));
        for (int untyped : new int[] {none, bad}) {
            d.dueThrow("size", STATE, () -> d.x.size(untyped));
            d.dueThrow("sign", STATE, () -> d.x.sign(untyped, 0));
            d.dueThrow("areAlike", STATE, () -> d.x.areAlike(untyped, five));
            d.dueThrow("areAlike", STATE, () -> d.x.areAlike(five, untyped));
        }
        d.dueError(none, 7, -1);
        d.dueError(d.rest(0, five), 7, -1);
        d.dueError(d.oneCase(0, 0, bad, none), 7, -1);
        Due.due("a sign far behind", (int) d.x.sign(five, Integer.MAX_VALUE), 32);
        Due.due("a sign", (int) d.x.sign(five, 0), (int) 'N');
    }

    private static void plainTypes() {
        Due d = new Due();
        int x = d.name(0);
        int y = d.name(1);
        d.dueType(d.number(-99), "N");
        d.dueType(d.empty(), "{}");
        d.dueType(d.fun(0, x), "(a>a)");
        d.dueType(d.fun(0, d.fun(1, x)), "(a>(b>a))");
        d.dueType(d.fun(0, d.fun(1, d.give(x, y))), "((a>b)>(a>b))");
        d.dueType(d.fun(0, d.fun(0, x)), "(a>(b>b))");
        d.dueType(d.plus(d.number(1), d.number(2)), "N");
        d.dueType(d.fun(0, d.plus(x, x)), "(N>N)");
        d.dueType(d.fun(0, d.choose(x, x, d.number(3))), "(N>N)");
        d.dueType(d.fun(0, d.fun(1, d.choose(x, y, y))), "(N>(a>a))");
        d.dueType(d.give(d.fun(0, d.fun(1, x)), d.number(3)), "(a>N)");
    }

    private static void names() {
        Due d = new Due();
        int x = d.name(0);
        d.dueError(x, 1, x);
        int fun = d.fun(9, x);
        d.dueError(fun, 1, x);
        int let = d.let(0, x, x);
        d.dueError(let, 1, x);
        d.dueType(d.rec(0, x, d.number(1)), "N");
        d.dueError(d.give(d.fun(0, x), x), 1, x);
        int other = d.name(1);
        d.dueError(d.plus(x, other), 1, x);
        d.dueError(d.plus(other, x), 1, other);
        int cases = d.oneCase(1, 0, d.number(1), d.rest(0, x));
        d.dueType(d.match(d.as(1, d.number(2)), d.rest(0, x)), "[1:N|a] a/1");
        d.dueError(d.match(x, cases), 1, x);
    }

    private static void generalNames() {
        Due d = new Due();
        int x = d.name(0);
        int y = d.name(1);
        int id = d.fun(0, x);
        d.dueType(d.let(1, id, d.give(y, y)), "(a>a)");
        int twice = d.give(y, y);
        d.dueError(d.give(d.fun(1, twice), id), 3, twice);
        d.dueType(d.fun(0, d.let(1, x, y)), "(a>a)");
        int number = d.give(y, d.number(1));
        int empty = d.give(y, d.empty());
        d.dueError(d.fun(0, d.let(1, x, d.record(number, empty))), 2, empty);
        d.dueType(d.let(1, id, d.record(number, empty)), "{0:N,1:{}}");
        int pair = d.let(1, d.fun(2, x), d.record(y, y));
        d.dueType(d.fun(0, pair), "(a>{0:(b>a),1:(c>a)})");
        d.dueType(d.rec(1, d.fun(0, d.give(y, x)), d.record(y, y)),
                "{0:(a>b),1:(c>d)}");
        int label = d.fun(0, d.of(3, x));
        d.dueType(d.let(1, label, d.record(y, y)),
                "{0:({3:a|b}>a),1:({3:c|d}>c)} b/3 d/3");
        int same = d.fun(0, d.same(x, x));
        d.dueType(d.let(1, same, d.record(y, y)), "{0:(a>N),1:(b>N)} a= b=");
    }

    private static void records() {
        Due d = new Due();
        int x = d.name(0);
        int one = d.number(1);
        d.dueType(d.with(9, one, d.with(0, d.empty(), d.empty())), "{0:{},9:N}");
        d.dueType(d.fun(0, d.with(4, one, x)), "({|a}>{4:N|a}) a/4");
        d.dueType(d.fun(0, d.of(4, x)), "({4:a|b}>a) b/4");
        d.dueType(d.fun(0, d.without(4, x)), "({4:a|b}>{|b}) b/4");
        d.dueType(d.fun(0, d.with(9, one, d.without(4, x))), "({4:a|b}>{9:N|b}) b/49");
        d.dueType(d.fun(0, d.with(4, one, d.without(4, x))), "({4:a|b}>{4:N|b}) b/4");
        d.dueType(d.fun(0, d.plus(d.of(7, x), d.of(2, x))), "({2:N,7:N|a}>N) a/27");
        d.dueType(d.fun(0, d.without(7, d.without(2, x))), "({2:a,7:b|c}>{|c}) c/27");
        d.dueType(d.fun(0, d.choose(one, x, d.record(one, one))), "({0:N,1:N}>{0:N,1:N})");
        d.dueType(d.without(1, d.record(one, one)), "{0:N}");
    }

    private static void variants() {
        Due d = new Due();
        int x = d.name(0);
        int y = d.name(1);
        int one = d.number(1);
        int none = d.noCase();
        d.dueType(d.as(9, one), "[9:N|a] a/9");
        d.dueType(d.fun(0, d.match(x, none)), "([]>a)");
        d.dueType(d.fun(0, d.match(x, d.rest(1, one))), "([|a]>N)");
        d.dueType(d.fun(0, d.match(x, d.rest(1, y))), "([|a]>[|a])");
        d.dueType(d.fun(0, d.match(x, d.oneCase(5, 1, y, none))), "([5:a]>a)");
        int both = d.oneCase(5, 1, y, d.oneCase(2, 1, y, none));
        d.dueType(d.fun(0, d.match(x, both)), "([2:a,5:a]>a)");
        int open = d.oneCase(5, 1, one, d.oneCase(2, 1, y, d.rest(1, one)));
        d.dueType(d.fun(0, d.match(x, open)), "([2:N,5:a|b]>N) b/25");
        int handed = d.oneCase(5, 1, d.as(3, y), d.rest(1, y));
        d.dueType(d.fun(0, d.match(x, handed)), "([3:a,5:a|b]>[3:a|b]) b/35");
        d.dueType(d.choose(one, d.as(1, one), d.as(0, one)), "[0:N,1:N|a] a/01");
    }

    private static void comparables() {
        Due d = new Due();
        int x = d.name(0);
        int y = d.name(1);
        int one = d.number(1);
        int same = d.same(x, y);
        int both = d.fun(0, d.fun(1, same));
        d.dueType(both, "(a>(a>N)) a=");
        d.dueType(d.fun(0, d.fun(1, d.same(d.with(3, one, x), y))),
                "({|a}>({3:N|a}>N)) a=/3");
        d.dueType(d.give(both, d.record(one)), "({0:N}>N)");
        int given = d.give(both, d.fun(0, x));
        d.dueError(given, 5, given);
        int bad = d.give(both, d.record(d.fun(0, x)));
        d.dueError(bad, 5, bad);
        int variant = d.give(both, d.as(1, d.fun(0, x)));
        d.dueError(variant, 5, variant);
        int fun = d.same(d.fun(0, x), d.fun(0, x));
        d.dueError(fun, 5, fun);
        int later = d.give(x, one);
        d.dueError(d.fun(0, d.plus(d.same(x, x), later)), 5, later);
        d.dueType(d.fun(0, d.give(both, x)), "(a>(a>N)) a=");
        int rows = d.fun(0, d.same(d.without(2, x), d.empty()));
        d.dueType(rows, "({2:a}>N)");
        int open = d.fun(0, d.fun(1, d.plus(d.same(x, x), d.of(2, x))));
        d.dueType(open, "({2:N|a}>(b>N)) a=/2");
        int left = d.same(d.without(2, x), d.without(2, x));
        int function = d.with(2, one, d.with(3, d.fun(0, x), d.empty()));
        int chosen = d.choose(one, x, function);
        d.dueError(d.fun(0, d.plus(left, d.of(2, chosen))), 5, chosen);
        int turned = d.choose(one, function, x);
        d.dueError(d.fun(0, d.plus(left, d.of(2, turned))), 5, turned);
        int wide = d.fun(0, d.fun(1, d.let(2, left, d.choose(one, x, d.with(3, y, y)))));
        d.dueType(wide, "({2:a,3:{2:a|b}|b}>({2:a|b}>{2:a,3:{2:a|b}|b})) a= b=/23");
        int kept = d.give(d.of(4, x), one);
        int asked = d.plus(d.same(d.without(2, x), d.without(2, x)), kept);
        d.dueError(d.fun(0, asked), 5, kept);
    }

    private static void unlike() {
        Due d = new Due();
        int x = d.name(0);
        int one = d.number(1);
        int id = d.fun(0, x);
        int none = d.noCase();
        int[] wrong = {d.give(one, one), d.plus(one, id), d.plus(id, one), d.of(0, one),
            d.without(0, id), d.with(0, one, one), d.of(0, d.as(0, one)), d.match(one, none),
            d.match(d.empty(), none), d.choose(id, one, one), d.choose(one, one, id),
            d.choose(one, d.empty(), one), d.same(one, d.empty()), d.same(one, id)};
        for (int term : wrong) {
            d.dueError(term, 2, term);
        }
        int inner = d.choose(d.empty(), d.name(7), one);
        d.dueError(inner, 2, inner);
        int last = d.oneCase(1, 0, d.empty(), none);
        int cases = d.oneCase(0, 0, one, last);
        d.dueError(d.match(d.as(0, one), cases), 2, last);
        int rest = d.rest(0, d.fun(0, x));
        d.dueError(d.match(d.as(0, one), d.oneCase(0, 0, one, rest)), 2, rest);
        int recursive = d.rec(0, d.fun(0, d.number(2)), one);
        d.dueType(recursive, "N");
        int own = d.rec(0, d.plus(d.give(x, one), one), one);
        d.dueError(own, 2, own);
    }

    private static void endless() {
        Due d = new Due();
        int x = d.name(0);
        int y = d.name(1);
        int one = d.number(1);
        int self = d.give(x, x);
        d.dueError(d.fun(0, self), 3, self);
        int chain = d.rec(0, d.with(1, x, d.empty()), one);
        d.dueError(chain, 3, chain);
        int fun = d.rec(0, d.fun(1, x), one);
        d.dueError(fun, 3, fun);
        int same = d.same(x, d.with(1, x, d.empty()));
        d.dueError(d.fun(0, same), 3, same);
        int row = d.choose(one, d.of(2, x), x);
        d.dueError(d.fun(0, row), 3, row);
        int open = d.choose(one, d.with(2, x, y), x);
        d.dueError(d.fun(0, d.fun(1, d.let(2, d.with(9, one, x), open))), 3, open);
        // {1:{|a}|a} and {2:{|b}|b}: the first binding brings a into what a is bound to
        int left = d.with(1, d.with(9, one, x), x);
        int right = d.with(2, d.with(9, one, y), y);
        int both = d.choose(one, left, right);
        d.dueError(d.fun(0, d.fun(1, both)), 3, both);
    }

    private static void rowErrors() {
        Due d = new Due();
        int x = d.name(0);
        int y = d.name(1);
        int one = d.number(1);
        int none = d.noCase();
        int[] missing = {d.of(1, d.empty()), d.without(1, d.record(one)),
            d.choose(one, d.empty(), d.record(one)), d.choose(one, d.record(one), d.empty()),
            d.match(d.as(1, one), none), d.same(d.record(one), d.with(5, one, d.empty())),
            d.match(d.as(1, one), d.oneCase(2, 0, one, none))};
        for (int term : missing) {
            d.dueError(term, 6, term);
        }
        int twice = d.with(0, one, d.record(one));
        d.dueError(twice, 4, twice);
        int open = d.with(0, one, d.with(0, one, x));
        d.dueError(d.fun(0, open), 4, open);
        int apart = d.choose(one, x, d.with(3, one, x));
        d.dueError(d.fun(0, apart), 4, apart);
        int again = d.of(3, d.without(3, x));
        d.dueError(d.fun(0, again), 4, again);
        int second = d.oneCase(4, 0, one, none);
        int first = d.oneCase(4, 0, one, second);
        d.dueError(d.match(d.as(4, one), first), 4, second);
        d.dueError(d.match(one, first), 4, second);
        int behind = d.match(y, d.oneCase(4, 0, one, none));
        int rest = d.match(x, d.oneCase(4, 0, one, d.rest(1, behind)));
        d.dueError(d.fun(0, rest), 4, behind);
        // 6 ahead of 4: one row is closed and misses a label, the other one is open and lacks one
        int closed = d.choose(one, d.with(5, one, d.without(3, x)),
                d.with(3, one, d.empty()));
        d.dueError(d.fun(0, closed), 6, closed);
        // 4 ahead of 3
        int lacks = d.choose(one, d.with(3, x, d.without(4, x)), d.without(3, y));
        int both = d.let(2, d.plus(d.of(4, x), d.of(3, y)), lacks);
        d.dueError(d.fun(0, d.fun(1, both)), 4, lacks);
    }

    private static void orderOfErrors() {
        Due d = new Due();
        int unknown = d.name(8);
        int other = d.name(7);
        int one = d.number(1);
        int none = d.noCase();
        d.dueError(d.give(unknown, other), 1, unknown);
        d.dueError(d.with(1, unknown, other), 1, unknown);
        d.dueError(d.let(1, unknown, other), 1, unknown);
        d.dueError(d.choose(unknown, other, other), 1, unknown);
        d.dueError(d.choose(one, other, unknown), 1, other);
        d.dueError(d.match(unknown, d.oneCase(1, 0, other, none)), 1, unknown);
        // the row of the cases is asked for ahead of the bodies
        int match = d.match(one, d.oneCase(1, 0, other, none));
        d.dueError(match, 2, match);
        // each body is found, and made the same as the others, ahead of the next one
        int third = d.oneCase(3, 0, other, none);
        int second = d.oneCase(2, 0, d.empty(), third);
        int cases = d.oneCase(1, 0, one, second);
        d.dueError(d.match(d.as(1, one), cases), 2, second);
        int sum = d.plus(d.empty(), other);
        d.dueError(sum, 1, other);
        // a function's first types ahead of its second ones
        int id = d.fun(0, d.empty());
        int bad = d.same(d.fun(0, d.plus(d.name(0), one)), d.fun(0, d.of(1, d.name(0))));
        d.dueError(bad, 2, bad);
        int wrong = d.same(d.fun(0, d.with(2, d.plus(d.of(1, d.name(0)), one), d.empty())), id);
        d.dueError(wrong, 6, wrong);
        // labels that both have, by rising labels
        int low = d.record(d.empty(), d.record(one));
        int high = d.record(d.record(one), one);
        int rising = d.choose(one, low, high);
        d.dueError(rising, 6, rising);
    }

    private static void errorAtStays() {
        Due d = new Due();
        int bad = d.name(4);
        int one = d.number(1);
        int none = d.noCase();
        int worse = d.give(one, one);
        d.x.check(bad);
        Due.due("errorAt", d.x.errorAt(), bad);
        d.dueThrow("check", INDEX, () -> d.x.check(99));
        d.dueThrow("size", STATE, () -> d.x.size(worse));
        d.dueThrow("run", STATE, () -> d.x.run(worse));
        Due.due("size", d.x.size(one), 1);
        Due.due("areAlike", d.x.areAlike(one, one), true);
        Due.due("errorAt", d.x.errorAt(), bad);
        d.x.check(worse);
        Due.due("errorAt", d.x.errorAt(), worse);
        d.x.check(one);
        Due.due("errorAt behind no error", d.x.errorAt(), -1);
        d.x.check(worse);
        Due.due("check of cases", d.x.check(none), 7);
        Due.due("errorAt behind 7", d.x.errorAt(), -1);
    }

    private static void longTexts() {
        Due d = new Due();
        d.dueType(d.doubled(4, d.number(1)), Due.doubledText(4, "N"));
        Due.due("a short one", Due.doubledText(4, "N").length(), 121);
        int wide = d.doubled(4, d.fun(0, d.name(0)));
        d.dueType(wide, Due.doubledText(4, "(a>a)"));
        Due l = new Due();
        int large = l.doubled(6, l.number(1));
        l.dueType(large, Due.doubledText(6, "N").substring(0, 300));
        Due.due("the last sign", l.x.sign(large, 299), Due.doubledText(6, "N").charAt(299));
        Due.due("behind the last sign", (int) l.x.sign(large, 300), 32);
        int largest = l.doubled(11, l.number(1));
        Due.due("the largest", l.x.size(largest), 300);
        Due.due("alike up to the 300th sign", l.x.areAlike(large, largest), false);
        int other = l.doubled(11, l.empty());
        Due.due("not alike", l.x.areAlike(largest, other), false);
    }

    /** Functions of eight variables, in a record of records: the 53rd variable is told by ?. */
    private static void manyVariables() {
        Due d = new Due();
        int fun = d.number(0);
        for (int name = 7; name >= 0; name--) {
            fun = d.fun(name, fun);
        }
        int few = d.let(0, fun, d.record(d.name(0), d.name(0), d.name(0)));
        d.dueType(few, "{0:(a>(b>(c>(d>(e>(f>(g>(h>N)))))))),1:(i>(j>(k>(l>(m>(n>(o>(p>N)))))))),"
                + "2:(q>(r>(s>(t>(u>(v>(w>(x>N))))))))}");
        manyMoreVariables();
    }

    private static void manyMoreVariables() {
        Due d = new Due();
        int fun = d.number(0);
        for (int name = 7; name >= 0; name--) {
            fun = d.fun(name, fun);
        }
        int many = d.let(0, fun, d.let(1, d.record(d.name(0), d.name(0), d.name(0)),
                d.record(d.name(1), d.name(1), d.name(1))));
        StringBuilder text = new StringBuilder("{");
        int next = 0;
        for (int record = 0; record < 3; record++) {
            text.append(record == 0 ? "" : ",").append(record).append(":{");
            for (int label = 0; label < 3; label++) {
                text.append(label == 0 ? "" : ",").append(label).append(':');
                for (int variable = 0; variable < 8; variable++) {
                    char letter = (char) (next < 26 ? 'a' + next : 'A' + next - 26);
                    text.append('(').append(next < 52 ? letter : '?').append('>');
                    next++;
                }
                text.append("N))))))))");
            }
            text.append('}');
        }
        d.dueType(many, text.substring(0, 300));
        Due.due("the 53rd letter", text.substring(0, 300).indexOf('?') > 0, true);
    }

    private static void alike() {
        Due d = new Due();
        int x = d.name(0);
        int y = d.name(1);
        int one = d.number(1);
        int id = d.fun(0, x);
        Due.due("areAlike", d.x.areAlike(id, d.fun(1, y)), true);
        Due.due("areAlike", d.x.areAlike(id, d.let(0, id, x)), true);
        Due.due("areAlike", d.x.areAlike(id, d.fun(0, d.plus(x, one))), false);
        Due.due("areAlike", d.x.areAlike(one, d.plus(one, one)), true);
        int both = d.record(one, one);
        int turned = d.with(1, one, d.with(0, one, d.empty()));
        Due.due("areAlike", d.x.areAlike(both, turned), true);
        Due.due("areAlike", d.x.areAlike(turned, d.empty()), false);
        int lacks = d.fun(0, d.without(1, d.with(1, one, x)));
        int more = d.fun(0, d.without(2, d.with(2, one, x)));
        d.dueType(lacks, "({|a}>{|a}) a/1");
        Due.due("areAlike but for what is lacked", d.x.areAlike(lacks, more), false);
        int same = d.fun(0, d.choose(d.same(x, x), x, x));
        d.dueType(same, "(a>a) a=");
        Due.due("areAlike but for what is comparable", d.x.areAlike(same, id), false);
        d.dueType(id, "(a>a)");
    }
}
