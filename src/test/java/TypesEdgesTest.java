/**
 * The sentences of the chapters Types and Texts of types, and of promises 7 to 11, that name a
 * boundary case. Each has a test of its own, with the sentence above it.
 */
public final class TypesEdgesTest {
    public static void main(String[] args) {
        innermostName();
        partsInWhichANameHolds();
        rowsOfNothing();
        labelsInNoOrder();
        unknownNameIs1();
        newVariablesForGeneralOnes();
        generalButForKnownNames();
        recursionIsGeneralBehindE();
        recordMustLackTheLabel();
        recordMustHaveTheLabel();
        variantOfOneLabel();
        labelOfACaseAhead();
        restLacksLabelsAhead();
        endIsNothing();
        whatACaseAsks();
        conditionAsSoonAsFound();
        sumBehindBothParts();
        samenessMakesComparable();
        sameVariables();
        unlikeIs2();
        endlessIs3();
        notComparableIs5();
        endsWithNothingIs6();
        mustLackIs4();
        sameEndIs4();
        rowWithinItselfIs3();
        rowNotComparableIs5();
        firstOfFourErrors();
        newEndLacksBoth();
        newEndIsComparable();
        endsWithNothingAsWell();
        sharedLabelsRising();
        firstErrorIsTold();
        Due.end();
    }

    // ---- names

    /** "A name means the innermost FUN, LET, REC, REST or CASE around it that has it". */
    private static void innermostName() {
        Due d = new Due();
        int x = d.name(0);
        int one = d.number(1);
        int inner = d.let(0, d.empty(), x);
        d.dueType(d.fun(0, inner), "(a>{})");
        d.dueType(d.fun(0, d.rec(0, one, x)), "(a>N)");
        d.dueType(d.let(0, one, d.fun(0, x)), "(a>a)");
        int variant = d.as(1, d.empty());
        d.dueType(d.let(0, one, d.match(variant, d.rest(0, x))), "[1:{}|a] a/1");
        int cases = d.oneCase(1, 0, x, d.noCase());
        d.dueType(d.let(0, one, d.match(variant, cases)), "{}");
        d.dueType(d.let(0, one, d.let(1, d.empty(), x)), "N");
    }

    /** "in the parts in which that holds": of LET the body alone, of REC e too, of a CASE its body. */
    private static void partsInWhichANameHolds() {
        Due d = new Due();
        int x = d.name(0);
        int one = d.number(1);
        int none = d.noCase();
        d.dueError(d.let(0, x, one), 1, x);
        d.dueType(d.let(0, one, x), "N");
        d.dueType(d.rec(0, x, x), "a");
        d.dueError(d.plus(d.fun(0, x), x), 1, x);
        d.dueError(d.plus(d.let(0, one, x), x), 1, x);
        d.dueError(d.plus(d.rec(0, one, x), x), 1, x);
        int variant = d.as(1, one);
        int next = d.oneCase(2, 1, x, none);
        d.dueError(d.match(variant, d.oneCase(1, 0, x, next)), 1, x);
        d.dueError(d.match(variant, d.oneCase(1, 0, one, d.rest(1, x))), 1, x);
        d.dueError(d.match(x, d.rest(0, one)), 1, x);
        d.dueError(d.plus(d.match(variant, d.rest(0, one)), x), 1, x);
        Due e = new Due();
        int y = e.name(0);
        int two = e.number(1);
        e.dueError(e.match(y, e.oneCase(1, 0, two, e.noCase())), 1, y);
        // each sees what is around it, though not its own name
        e.dueType(e.fun(0, e.let(0, y, e.number(2))), "(a>N)");
    }

    /** "An unknown name is the error 1." */
    private static void unknownNameIs1() {
        for (int name : new int[] {0, 9}) {
            Due d = new Due();
            int x = d.name(name);
            d.dueError(x, 1, x);
            d.dueType(d.fun(name, x), "(a>a)");
            int other = d.fun(9 - name, x);
            d.dueError(other, 1, x);
            d.dueType(d.fun(name, other), "(a>(b>a))");
        }
    }

    // ---- what terms are

    /** "A row is nothing": the record, and the variant, without labels. */
    private static void rowsOfNothing() {
        Due d = new Due();
        int x = d.name(0);
        d.dueType(d.empty(), "{}");
        d.dueType(d.without(0, d.with(0, d.number(1), d.empty())), "{}");
        d.dueType(d.fun(0, d.match(x, d.noCase())), "([]>a)");
        int none = d.match(x, d.noCase());
        d.dueError(d.fun(0, d.match(x, d.oneCase(0, 1, none, d.noCase()))), 6, none);
    }

    /** "Labels of a row are in no order." */
    private static void labelsInNoOrder() {
        Due d = new Due();
        int one = d.number(1);
        int two = d.empty();
        int rising = d.with(0, one, d.with(9, two, d.empty()));
        int falling = d.with(9, two, d.with(0, one, d.empty()));
        d.dueType(rising, "{0:N,9:{}}");
        d.dueType(falling, "{0:N,9:{}}");
        Due.due("areAlike", d.x.areAlike(rising, falling), true);
        d.dueType(d.choose(one, rising, falling), "{0:N,9:{}}");
        int swapped = d.with(9, one, d.with(0, two, d.empty()));
        Due.due("areAlike", d.x.areAlike(rising, swapped), false);
        int unlike = d.choose(one, rising, swapped);
        d.dueError(unlike, 2, unlike);
    }

    /** "NAME: .. new variables for those that are general, which lack, and are comparable, as those". */
    private static void newVariablesForGeneralOnes() {
        Due d = new Due();
        int x = d.name(0);
        int f = d.name(1);
        int one = d.number(1);
        int lacks = d.fun(0, d.without(0, d.without(9, x)));
        d.dueType(d.let(1, lacks, d.record(f, f)),
                "{0:({0:a,9:b|c}>{|c}),1:({0:d,9:e|f}>{|f})} c/09 f/09");
        int same = d.fun(0, d.let(2, d.same(d.without(4, x), d.without(4, x)), d.without(4, x)));
        d.dueType(d.let(1, same, f), "({4:a|b}>{|b}) b=/4");
        int put = d.let(1, same, d.give(f, d.with(4, one, d.with(5, d.fun(0, x), d.empty()))));
        d.dueError(put, 5, put - 1);
        int fine = d.let(1, same, d.give(f, d.with(4, d.fun(0, x), d.with(5, one, d.empty()))));
        d.dueType(fine, "{5:N}");
        int lacked = d.let(1, d.fun(0, d.with(4, one, x)), d.give(f, d.with(4, one, d.empty())));
        d.dueError(lacked, 4, lacked - 1);
    }

    /** "LET: .. general in all variables that are not in the type of a name that is known around". */
    private static void generalButForKnownNames() {
        Due d = new Due();
        int x = d.name(0);
        int y = d.name(1);
        int one = d.number(1);
        int numbered = d.give(y, one);
        int emptied = d.give(y, d.empty());
        int both = d.record(numbered, emptied);
        d.dueType(d.let(1, d.fun(2, d.name(2)), both), "{0:N,1:{}}");
        d.dueError(d.fun(0, d.let(1, x, both)), 2, emptied);
        d.dueError(d.match(d.as(1, d.fun(0, x)), d.oneCase(1, 1, both, d.noCase())), 2, emptied);
        d.dueError(d.fun(0, d.match(x, d.oneCase(1, 0, d.let(1, x, both), d.noCase()))), 2,
                emptied);
        // the type of any name counts, not that of the innermost one alone
        d.dueError(d.fun(0, d.fun(3, d.fun(4, d.let(1, x, both)))), 2, emptied);
        // the part that is not x's is general
        int pair = d.let(1, d.fun(2, d.record(x, d.name(2))), both);
        d.dueType(d.fun(0, pair), "(a>{0:{0:a,1:N},1:{0:a,1:{}}})");
        // a name that is not used makes its variables known nonetheless
        d.dueType(d.fun(0, d.let(2, x, d.let(1, d.fun(3, d.name(3)), both))),
                "(a>{0:N,1:{}})");
    }

    /** "REC: e's type is made the same as a new variable, which is the name's in e; then as LET." */
    private static void recursionIsGeneralBehindE() {
        Due d = new Due();
        int x = d.name(0);
        int y = d.name(1);
        int one = d.number(1);
        int emptied = d.give(y, d.empty());
        int both = d.record(d.give(y, one), emptied);
        d.dueType(d.rec(1, d.fun(0, x), both), "{0:N,1:{}}");
        d.dueError(d.rec(1, d.fun(0, both), one), 2, emptied);
        d.dueType(d.rec(1, d.fun(0, d.give(y, x)), y), "(a>b)");
        int unlike = d.rec(1, d.fun(0, d.plus(d.give(y, d.empty()), x)), one);
        d.dueError(unlike, 2, unlike);
        d.dueError(d.fun(0, d.rec(1, x, both)), 2, emptied);
    }

    /** WITH: "the record of a new row that lacks the label". */
    private static void recordMustLackTheLabel() {
        Due d = new Due();
        int x = d.name(0);
        int one = d.number(1);
        for (int label : new int[] {0, 9}) {
            int first = d.with(label, one, d.empty());
            d.dueType(first, "{" + label + ":N}");
            int again = d.with(label, one, first);
            d.dueError(again, 4, again);
            d.dueType(d.with(label, d.empty(), d.without(label, first)), "{" + label + ":{}}");
            d.dueType(d.fun(0, d.with(label, one, x)),
                    "({|a}>{" + label + ":N|a}) a/" + label);
        }
        int number = d.with(0, one, one);
        d.dueError(number, 2, number);
    }

    /** OF, WITHOUT: "the record of the label with a new variable, and a new row that lacks it". */
    private static void recordMustHaveTheLabel() {
        Due d = new Due();
        int x = d.name(0);
        int one = d.number(1);
        for (int label : new int[] {0, 9}) {
            int record = d.with(label, one, d.with(5, d.empty(), d.empty()));
            d.dueType(d.of(label, record), "N");
            d.dueType(d.without(label, record), "{5:{}}");
            int gone = d.of(label, d.without(label, record));
            d.dueError(gone, 6, gone);
            int twice = d.without(label, d.without(label, record));
            d.dueError(twice, 6, twice);
            d.dueType(d.fun(0, d.of(label, x)), "({" + label + ":a|b}>a) b/" + label);
            int open = d.of(label, d.without(label, x));
            d.dueError(d.fun(0, open), 4, open);
        }
        int none = d.of(0, d.empty());
        d.dueError(none, 6, none);
    }

    /** AS: "the variant of the label with e's type, and a new row that lacks it". */
    private static void variantOfOneLabel() {
        Due d = new Due();
        int one = d.number(1);
        int zero = d.as(0, one);
        int nine = d.as(9, one);
        d.dueType(zero, "[0:N|a] a/0");
        d.dueType(nine, "[9:N|a] a/9");
        d.dueType(d.choose(one, zero, nine), "[0:N,9:N|a] a/09");
        d.dueType(d.choose(one, zero, d.as(0, d.number(2))), "[0:N|a] a/0");
        int unlike = d.choose(one, zero, d.as(0, d.empty()));
        d.dueError(unlike, 2, unlike);
    }

    /** MATCH: "a label that a case ahead of it has being the error 4, of that CASE". */
    private static void labelOfACaseAhead() {
        Due d = new Due();
        int one = d.number(1);
        int none = d.noCase();
        int e = d.as(3, one);
        int last = d.oneCase(3, 0, one, none);
        d.dueType(d.match(e, last), "N");
        int second = d.oneCase(4, 0, one, last);
        d.dueType(d.match(e, second), "N");
        int first = d.oneCase(3, 0, one, second);
        d.dueError(d.match(e, first), 4, last);
        // of three alike the second one is told
        int next = d.oneCase(3, 0, one, last);
        d.dueError(d.match(e, d.oneCase(3, 0, one, next)), 4, next);
        // behind e, ahead of what the row and the bodies ask
        int unknown = d.name(7);
        d.dueError(d.match(unknown, first), 1, unknown);
        d.dueError(d.match(one, first), 4, last);
        int body = d.oneCase(3, 0, unknown, last);
        d.dueError(d.match(e, body), 4, last);
        int rest = d.oneCase(3, 0, one, d.rest(0, unknown));
        d.dueError(d.match(e, d.oneCase(3, 0, one, rest)), 4, rest);
    }

    /** REST: "a new row that lacks all labels of the cases ahead of it". */
    private static void restLacksLabelsAhead() {
        Due d = new Due();
        int x = d.name(0);
        int rest = d.rest(1, d.name(1));
        d.dueType(d.fun(0, d.match(x, rest)), "([|a]>[|a])");
        int nine = d.oneCase(9, 1, d.as(5, d.name(1)), rest);
        d.dueType(d.fun(0, d.match(x, nine)), "([5:a,9:a|b]>[5:a|b]) b/59");
        int all = d.rest(1, d.number(1));
        for (int label = 0; label < 10; label++) {
            all = d.oneCase(label, 1, d.number(1), all);
        }
        d.dueType(d.fun(0, d.match(x, all)),
                "([0:a,1:b,2:c,3:d,4:e,5:f,6:g,7:h,8:i,9:j|k]>N) k/0123456789");
        int again = d.match(d.name(1), d.oneCase(9, 1, d.number(1), d.noCase()));
        int lacked = d.oneCase(9, 1, d.number(1), d.rest(1, again));
        d.dueError(d.fun(0, d.match(x, lacked)), 4, again);
    }

    /** MATCH: "of END nothing". */
    private static void endIsNothing() {
        Due d = new Due();
        int x = d.name(0);
        int one = d.number(1);
        int none = d.noCase();
        d.dueType(d.fun(0, d.match(x, none)), "([]>a)");
        d.dueType(d.fun(0, d.match(x, d.oneCase(4, 1, one, none))), "([4:a]>N)");
        int missing = d.match(d.as(3, one), none);
        d.dueError(missing, 6, missing);
        int other = d.match(d.as(3, one), d.oneCase(4, 1, one, none));
        d.dueError(other, 6, other);
        d.dueType(d.match(d.as(3, one), d.oneCase(3, 1, one, none)), "N");
        int number = d.match(one, none);
        d.dueError(number, 2, number);
    }

    /** MATCH: "each body, in order, is made the same ..; what this asks, the CASE or REST asks." */
    private static void whatACaseAsks() {
        Due d = new Due();
        int one = d.number(1);
        int none = d.noCase();
        int e = d.as(1, one);
        int last = d.oneCase(2, 0, d.empty(), none);
        d.dueError(d.match(e, d.oneCase(1, 0, one, last)), 2, last);
        int rest = d.rest(0, d.empty());
        d.dueError(d.match(e, d.oneCase(1, 0, one, rest)), 2, rest);
        int unknown = d.oneCase(3, 0, d.name(5), none);
        int second = d.oneCase(2, 0, d.empty(), unknown);
        d.dueError(d.match(e, d.oneCase(1, 0, one, second)), 2, second);
        int missing = d.match(e, last);
        d.dueError(missing, 6, missing);
        int x = d.name(0);
        int itself = d.oneCase(2, 1, d.with(0, x, d.empty()), none);
        d.dueError(d.fun(0, d.match(e, d.oneCase(1, 1, x, itself))), 3, itself);
    }

    /** IF: "c's is made that of numbers as soon as it is found, ahead of a's and b's". */
    private static void conditionAsSoonAsFound() {
        Due d = new Due();
        int one = d.number(1);
        int unknown = d.name(5);
        int empty = d.empty();
        int asked = d.choose(empty, unknown, unknown);
        d.dueError(asked, 2, asked);
        d.dueError(d.choose(one, unknown, empty), 1, unknown);
        d.dueError(d.choose(one, empty, unknown), 1, unknown);
        int unlike = d.choose(one, empty, one);
        d.dueError(unlike, 2, unlike);
        d.dueType(d.choose(one, empty, empty), "{}");
        // c is a number already where a is found
        int x = d.name(0);
        int label = d.of(1, x);
        d.dueError(d.fun(0, d.choose(x, label, one)), 2, label);
    }

    /** PLUS: "behind both a's, then b's is made that of numbers". */
    private static void sumBehindBothParts() {
        Due d = new Due();
        int x = d.name(0);
        int unknown = d.name(5);
        int empty = d.empty();
        d.dueError(d.plus(empty, unknown), 1, unknown);
        int first = d.plus(empty, d.number(1));
        d.dueError(first, 2, first);
        int second = d.plus(d.number(1), empty);
        d.dueError(second, 2, second);
        // x is no number yet where b is found
        int behind = d.plus(x, d.of(1, x));
        d.dueError(d.fun(0, behind), 2, behind);
        d.dueType(d.fun(0, d.plus(d.of(1, x), d.of(2, x))), "({1:N,2:N|a}>N) a/12");
    }

    /** SAME: "b's is made the same as a's, which is made comparable; it is that of numbers." */
    private static void samenessMakesComparable() {
        Due d = new Due();
        int x = d.name(0);
        int fun = d.fun(1, x);
        d.dueType(d.fun(0, d.same(x, x)), "(a>N) a=");
        d.dueType(d.same(d.empty(), d.empty()), "N");
        d.dueType(d.same(d.as(1, d.empty()), d.as(2, d.empty())), "N");
        int functions = d.same(d.fun(0, x), d.fun(0, x));
        d.dueError(functions, 5, functions);
        int unlike = d.same(d.fun(0, x), d.number(1));
        d.dueError(unlike, 2, unlike);
        int within = d.same(d.with(1, fun, d.empty()), d.with(1, fun, d.empty()));
        d.dueError(d.fun(0, within), 5, within);
        int variant = d.same(d.as(1, fun), d.as(1, fun));
        d.dueError(d.fun(0, variant), 5, variant);
        d.dueType(d.fun(0, d.same(d.without(3, x), d.without(3, x))), "({3:a|b}>N) b=/3");
        d.dueType(d.fun(0, d.same(d.of(3, x), d.of(3, x))), "({3:a|b}>N) a= b/3");
    }

    // ---- making types the same

    /** "two that are the same variable are": nothing would be in itself. */
    private static void sameVariables() {
        Due d = new Due();
        int x = d.name(0);
        int one = d.number(1);
        d.dueType(d.fun(0, d.choose(one, x, x)), "(a>a)");
        d.dueType(d.rec(0, x, x), "a");
        int open = d.with(2, one, x);
        d.dueType(d.fun(0, d.choose(one, open, open)), "({|a}>{2:N|a}) a/2");
        int fun = d.fun(1, x);
        d.dueType(d.fun(0, d.choose(one, fun, fun)), "(a>(b>a))");
    }

    /** "otherwise it is the error 2": each two unlike sorts, in both orders. */
    private static void unlikeIs2() {
        for (int first = 0; first < 4; first++) {
            for (int second = 0; second < 4; second++) {
                Due d = new Due();
                int[] sorts = {d.number(1), d.fun(0, d.number(1)), d.empty(), d.as(1, d.empty())};
                int both = d.choose(d.number(1), sorts[first], sorts[second]);
                if (first == second) {
                    Due.due("check", d.x.check(both), 0);
                } else {
                    d.dueError(both, 2, both);
                }
            }
        }
        // the record and the variant of like rows are unlike
        Due d = new Due();
        int x = d.name(0);
        int of = d.of(1, x);
        d.dueError(d.fun(0, d.match(x, d.oneCase(1, 1, of, d.noCase()))), 2, of);
    }

    /** "A variable that would be in what it is bound to is the error 3": as the first, the second. */
    private static void endlessIs3() {
        Due d = new Due();
        int x = d.name(0);
        int one = d.number(1);
        int[] within = {d.fun(1, x), d.fun(1, d.fun(2, x)), d.with(1, x, d.empty()), d.as(1, x)};
        for (int term : within) {
            int first = d.choose(one, term, x);
            d.dueError(d.fun(0, first), 3, first);
            int second = d.choose(one, x, term);
            d.dueError(d.fun(0, second), 3, second);
        }
        int self = d.give(x, x);
        d.dueError(d.fun(0, self), 3, self);
        int rec = d.rec(0, d.fun(1, x), one);
        d.dueError(rec, 3, rec);
        d.dueType(d.let(0, d.fun(1, d.name(1)), d.give(x, x)), "(a>a)");
        // of a comparable variable 3 is told ahead of 5
        int comparable = d.let(2, d.same(x, x), d.choose(one, x, d.fun(1, x)));
        d.dueError(d.fun(0, comparable), 3, comparable - 1);
    }

    /** "What is bound to be comparable makes what it is bound to so, .. error 5, if it cannot be." */
    private static void notComparableIs5() {
        Due d = new Due();
        int x = d.name(0);
        int y = d.name(1);
        int one = d.number(1);
        int same = d.same(x, x);
        int fun = d.fun(2, one);
        int first = d.choose(one, fun, x);
        int second = d.choose(one, x, fun);
        d.dueError(d.fun(0, d.let(3, same, first)), 5, first);
        d.dueError(d.fun(0, d.let(3, same, second)), 5, second);
        d.dueType(d.fun(0, first), "((a>N)>(a>N))");
        // a variable that it is bound to, and all that are in what it is bound to
        int bound = d.choose(one, x, y);
        d.dueType(d.fun(0, d.fun(1, d.let(3, same, bound))), "(a>(a>a)) a=");
        int other = d.choose(one, y, x);
        d.dueType(d.fun(0, d.fun(1, d.let(3, same, other))), "(a>(a>a)) a=");
        int record = d.choose(one, x, d.with(1, y, d.empty()));
        d.dueType(d.fun(0, d.fun(1, d.let(3, same, record))), "({1:a}>(a>{1:a})) a=");
        Due e = new Due();
        int z = e.name(0);
        int two = e.number(1);
        int variant = e.choose(two, z, e.as(1, e.name(1)));
        e.dueType(e.fun(0, e.fun(1, e.let(3, e.same(z, z), variant))),
                "([1:a|b]>(a>[1:a|b])) a= b=/1");
        int deep = e.choose(two, z, e.as(1, e.with(2, e.fun(2, two), e.empty())));
        e.dueError(e.fun(0, e.let(3, e.same(z, z), deep)), 5, deep);
    }

    // ---- making rows the same

    /** "one would need labels, and ends with nothing: 6": the first row, the second one, both. */
    private static void endsWithNothingIs6() {
        Due d = new Due();
        int one = d.number(1);
        int none = d.empty();
        int zero = d.with(0, one, none);
        int nine = d.with(9, one, none);
        for (int[] both : new int[][] {{none, zero}, {zero, none}, {zero, nine}, {nine, none}}) {
            int term = d.choose(one, both[0], both[1]);
            d.dueError(term, 6, term);
        }
        d.dueType(d.choose(one, zero, zero), "{0:N}");
        d.dueType(d.choose(one, none, none), "{}");
        // the row that needs none can end with nothing, though the other one is open
        d.dueType(d.fun(0, d.choose(one, zero, d.name(0))), "({0:N}>{0:N})");
        int open = d.choose(one, none, d.with(9, one, d.name(0)));
        d.dueError(d.fun(0, open), 6, open);
    }

    /** "one ends with a variable that must lack a label that it would need: 4", for both rows. */
    private static void mustLackIs4() {
        Due d = new Due();
        int one = d.number(1);
        int lacks = d.without(3, d.name(0));
        int has = d.with(3, one, d.empty());
        int first = d.choose(one, has, lacks);
        d.dueError(d.fun(0, first), 4, first);
        int second = d.choose(one, lacks, has);
        d.dueError(d.fun(0, second), 4, second);
        d.dueType(d.fun(0, d.choose(one, lacks, d.with(4, one, d.empty()))),
                "({3:a,4:N}>{4:N})");
        d.dueType(d.fun(0, d.choose(one, lacks, d.empty())), "({3:a}>{})");
        int open = d.choose(one, lacks, d.with(3, one, d.name(1)));
        d.dueError(d.fun(0, d.fun(1, open)), 4, open);
    }

    /** "(so it is where both end with the same variable, and a label is in one alone)". */
    private static void sameEndIs4() {
        Due d = new Due();
        int x = d.name(0);
        int one = d.number(1);
        int three = d.with(3, one, x);
        int four = d.with(4, one, x);
        int both = d.with(4, one, three);
        int[][] wrong = {{x, three}, {three, x}, {three, four}, {both, three}, {three, both}};
        for (int[] rows : wrong) {
            int term = d.choose(one, rows[0], rows[1]);
            d.dueError(d.fun(0, term), 4, term);
        }
        d.dueType(d.fun(0, d.choose(one, both, d.with(3, one, four))),
                "({|a}>{3:N,4:N|a}) a/34");
        d.dueType(d.fun(0, d.choose(one, x, d.without(3, three))), "({|a}>{|a}) a/3");
    }

    /** "the variable would be in what it is bound to: 3", for both rows. */
    private static void rowWithinItselfIs3() {
        Due d = new Due();
        int x = d.name(0);
        int y = d.name(1);
        int one = d.number(1);
        int within = d.with(3, y, x);
        int open = d.with(4, one, y);
        int first = d.choose(one, open, within);
        d.dueError(d.fun(0, d.fun(1, first)), 3, first);
        int second = d.choose(one, within, open);
        d.dueError(d.fun(0, d.fun(1, second)), 3, second);
        int beside = d.choose(one, d.with(3, one, x), open);
        d.dueType(d.fun(0, d.fun(1, beside)), "({4:N|a}>({3:N|a}>{3:N,4:N|a})) a/34");
        // a label that both have can have the variable
        int both = d.choose(one, d.with(3, y, x), d.with(3, y, d.without(5, y)));
        d.dueType(d.fun(0, d.fun(1, both)),
                "({|a}>({5:b|a}>{3:{5:b|a}|a})) a/35");
    }

    /** "what is not comparable, but must be: 5", for both rows. */
    private static void rowNotComparableIs5() {
        Due d = new Due();
        int one = d.number(1);
        int open = d.without(3, d.name(0));
        int same = d.same(open, open);
        int fun = d.with(4, d.fun(2, one), d.empty());
        int first = d.choose(one, fun, open);
        d.dueError(d.fun(0, d.let(3, same, first)), 5, first);
        int second = d.choose(one, open, fun);
        d.dueError(d.fun(0, d.let(3, same, second)), 5, second);
        d.dueType(d.fun(0, second), "({3:a,4:(b>N)}>{4:(b>N)})");
        int number = d.choose(one, open, d.with(4, one, d.empty()));
        d.dueType(d.fun(0, d.let(3, same, number)), "({3:a,4:N}>{4:N})");
        // the label that is not of the comparable row can have a function
        int apart = d.choose(one, d.name(0), d.with(3, d.fun(2, one), d.empty()));
        d.dueType(d.fun(0, d.let(3, same, apart)), "({3:(a>N)}>{3:(a>N)})");
    }

    /** Both orders of the rows come to the same error. */
    private static void dueRows(int error, int around, Rows rows) {
        for (int order = 0; order < 2; order++) {
            Due d = new Due();
            int[] both = rows.make(d);
            int term = d.choose(d.number(1), both[order], both[1 - order]);
            int same = d.same(d.name(around), d.name(around));
            d.dueError(d.fun(0, d.fun(1, d.let(2, same, term))), error, term);
        }
    }

    private interface Rows {
        int[] make(Due d);
    }

    /** "The first of these that is so is told, each being looked at for both rows ahead of the next". */
    private static void firstOfFourErrors() {
        // x is the record of the row a, y of b; the name around is made comparable
        dueRows(6, 0, d -> new int[] {d.with(3, d.empty(), d.empty()),
            d.with(5, d.empty(), d.without(3, d.name(1)))});
        dueRows(6, 0, d -> new int[] {d.with(3, d.name(1), d.empty()),
            d.with(7, d.empty(), d.name(1))});
        dueRows(6, 1, d -> new int[] {d.with(3, d.fun(4, d.empty()), d.empty()),
            d.with(7, d.empty(), d.name(1))});
        dueRows(4, 0, d -> new int[] {d.with(3, d.name(1), d.without(7, d.name(0))),
            d.with(7, d.empty(), d.name(1))});
        dueRows(3, 0, d -> new int[] {d.with(3, d.name(1), d.name(0)),
            d.with(7, d.empty(), d.name(1))});
        dueRows(4, 1, d -> new int[] {
            d.with(3, d.fun(4, d.empty()), d.without(7, d.name(0))),
            d.with(7, d.empty(), d.name(1))});
        dueRows(3, 0, d -> new int[] {d.with(3, d.name(1), d.name(0)),
            d.with(7, d.fun(4, d.empty()), d.name(1))});
        dueRows(5, 0, d -> new int[] {d.with(3, d.empty(), d.name(0)),
            d.with(7, d.fun(4, d.empty()), d.name(1))});
    }

    /** "both are then followed by a new one, which lacks what one or the other must lack". */
    private static void newEndLacksBoth() {
        Due d = new Due();
        int x = d.name(0);
        int y = d.name(1);
        int one = d.number(1);
        int zero = d.without(0, x);
        int nine = d.without(9, y);
        d.dueType(d.fun(0, d.fun(1, d.choose(one, zero, nine))),
                "({0:a|b}>({9:c|b}>{|b})) b/09");
        d.dueType(d.fun(0, d.fun(1, d.choose(one, d.with(3, one, x), d.with(5, one, y)))),
                "({5:N|a}>({3:N|a}>{3:N,5:N|a})) a/35");
        int none = d.match(d.name(2), d.rest(2, d.name(2)));
        d.dueType(d.fun(2, none), "([|a]>[|a])");
        // a label that stands in one row alone must be lacked as well
        int put = d.with(5, one, d.choose(one, d.with(3, one, x), d.with(5, one, y)));
        d.dueError(d.fun(0, d.fun(1, put)), 4, put);
    }

    /** "and is comparable if one is": the first, the second, both, none. */
    private static void newEndIsComparable() {
        for (int which = 0; which < 4; which++) {
            for (int order = 0; order < 2; order++) {
                Due d = new Due();
                int one = d.number(1);
                int x = d.without(3, d.name(0));
                int y = d.without(4, d.name(1));
                int asked = one;
                asked = (which & 1) != 0 ? d.plus(asked, d.same(x, x)) : asked;
                asked = (which & 2) != 0 ? d.plus(asked, d.same(y, y)) : asked;
                int both = order == 0 ? d.choose(asked, x, y) : d.choose(asked, y, x);
                String bound = which == 0 ? " b/34" : " b=/34";
                d.dueType(d.fun(0, d.fun(1, both)), "({3:a|b}>({4:c|b}>{|b}))" + bound);
            }
        }
    }

    /** "where one ends with nothing, so does the other one". */
    private static void endsWithNothingAsWell() {
        Due d = new Due();
        int x = d.name(0);
        int one = d.number(1);
        int none = d.empty();
        d.dueType(d.fun(0, d.choose(one, x, none)), "({}>{})");
        d.dueType(d.fun(0, d.choose(one, none, x)), "({}>{})");
        int open = d.with(3, one, x);
        int closed = d.with(3, one, d.with(4, one, none));
        d.dueType(d.fun(0, d.choose(one, open, closed)), "({4:N}>{3:N,4:N})");
        d.dueType(d.fun(0, d.choose(one, closed, open)), "({4:N}>{3:N,4:N})");
        int behind = d.of(5, x);
        d.dueError(d.fun(0, d.let(1, d.choose(one, x, none), behind)), 6, behind);
        d.dueType(d.fun(0, d.match(x, d.oneCase(1, 2, one, d.noCase()))), "([1:a]>N)");
    }

    /** "Then the types of labels that both had, by rising labels, are made the same." */
    private static void sharedLabelsRising() {
        Due d = new Due();
        int one = d.number(1);
        int record = d.with(1, one, d.empty());
        int x = d.name(0);
        // at one label it is a 2, at the other one a 6
        int two = d.with(0, one, d.with(9, d.empty(), d.empty()));
        int six = d.with(0, record, d.with(9, record, d.empty()));
        int first = d.choose(one, two, six);
        d.dueError(first, 2, first);
        int turned = d.choose(one, d.with(0, d.empty(), d.with(9, one, d.empty())), six);
        d.dueError(turned, 6, turned);
        // labels that one alone has are looked at ahead of those that both have
        int wide = d.choose(one, d.with(0, one, d.empty()),
                d.with(0, d.empty(), d.with(9, one, d.empty())));
        d.dueError(wide, 6, wide);
        int three = d.choose(one, d.with(0, one, x), d.with(0, d.empty(), d.with(9, x, x)));
        d.dueError(d.fun(0, three), 4, three);
    }

    /** "otherwise the first error is told, and the term for which it is: that which asks it." */
    private static void firstErrorIsTold() {
        Due d = new Due();
        int one = d.number(1);
        int inner = d.plus(one, d.empty());
        int outer = d.plus(d.empty(), inner);
        d.dueError(outer, 2, inner);
        d.dueError(d.of(1, outer), 2, inner);
        int early = d.of(1, d.empty());
        d.dueError(d.plus(early, inner), 6, early);
        d.dueError(d.plus(inner, early), 2, inner);
        d.dueError(d.let(0, d.name(3), inner), 1, d.x.made() - 2);
        // functions in their first, then in their second types
        int first = d.choose(one, d.fun(0, d.plus(d.name(0), one)), d.fun(0, d.of(1, d.name(0))));
        d.dueError(first, 2, first);
        int six = d.choose(one, d.fun(0, d.let(1, d.choose(one, d.name(0), d.empty()), one)),
                d.fun(0, d.let(1, d.of(1, d.name(0)), d.empty())));
        d.dueError(six, 6, six);
        // the same term at two places: it is told by its number
        d.dueError(d.record(one, inner, inner), 2, inner);
    }
}
