/**
 * The sentences of the chapters Terms and Doing, and of promises 12 to 16, that name a boundary
 * case of doing a term. Each has a test of its own, with the sentence above it.
 */
public final class DoingEdgesTest {
    private static final Class<?> ARGUMENT = IllegalArgumentException.class;
    private static final Class<?> INDEX = IndexOutOfBoundsException.class;
    private static final Class<?> STATE = IllegalStateException.class;
    private static final int LEAST = Integer.MIN_VALUE;
    private static final int MOST = Integer.MAX_VALUE;

    public static void main(String[] args) {
        overflowAsInts();
        notZero();
        oneOrZero();
        thoseThatAreNeededAlone();
        bothPartsOfGive();
        onceAheadOfTheBody();
        firstCaseThatHasTheLabel();
        doneAnew();
        untilTwoAreUnlike();
        heldPairsAreSteps();
        eachTermIsAStep();
        doneAgainIsAStepAgain();
        aheadOfThe1001st();
        heldPairAheadOfThe1001st();
        textsOfResults();
        resultEndsBehind300Signs();
        howManySigns();
        stepsAtMost1000();
        blankBehindTheEnd();
        noSuchSign();
        namesStandForTheirPlaces();
        eachRowAndEachLabel();
        placesOfNamesAround();
        leastAndGreatestLabels();
        restCountsAnew();
        generalNowhere();
        agreesIfTooFar();
        agreesIfTooMuchToDo();
        latestResultStays();
        howManyPlaces();
        lackedLabelsAlone();
        laterTypesDoNotCount();
        greatestOfSeveralPlaces();
        doesNotStandThere();
        neitherLetNorRec();
        Due.end();
    }

    private static void dueAgrees(Due d, int term, String result) {
        String done = d.done(term);
        Due.due("done " + term, done.substring(0, done.lastIndexOf(' ')), result);
        Due.due("agrees " + term, d.x.agrees(term), true);
    }

    // ---- numbers

    /** 2 to the given power, as y in the body: doubled so often. */
    private static int power(Due d, int power, int body) {
        int less = d.give(d.name(2), d.plus(d.name(1), d.number(-1)));
        int twice = d.let(0, less, d.plus(d.name(0), d.name(0)));
        int fun = d.fun(1, d.choose(d.name(1), twice, d.number(1)));
        return d.let(3, d.rec(2, fun, d.give(d.name(2), d.number(power))), body);
    }

    private static int sum(Due d, int more) {
        int y = d.name(3);
        return d.plus(y, d.plus(y, d.number(more)));
    }

    /** PLUS "of numbers, with overflow as ints": up to the greatest and the least one, and beyond. */
    private static void overflowAsInts() {
        Due d = new Due();
        dueAgrees(d, power(d, 30, sum(d, -2)), "2147483646");
        dueAgrees(d, power(d, 30, sum(d, -1)), "2147483647");
        dueAgrees(d, power(d, 30, sum(d, 0)), "-2147483648");
        dueAgrees(d, power(d, 30, sum(d, 1)), "-2147483647");
        Due e = new Due();
        int y = e.name(3);
        dueAgrees(e, power(e, 31, y), "-2147483648");
        dueAgrees(e, power(e, 31, e.plus(y, e.number(-1))), "2147483647");
        dueAgrees(e, power(e, 31, e.plus(y, y)), "0");
        Due f = new Due();
        dueAgrees(f, power(f, 32, f.name(3)), "0");
        dueAgrees(f, f.plus(f.number(-99), f.number(-99)), "-198");
        dueAgrees(f, f.plus(f.number(99), f.number(-99)), "0");
    }

    /** IF: "a, if the number c is not 0, otherwise b". */
    private static void notZero() {
        for (int asked : new int[] {-99, -1, 0, 1, 99}) {
            Due d = new Due();
            int term = d.choose(d.number(asked), d.number(5), d.number(6));
            d.dueDone(term, asked == 0 ? "6 3" : "5 3");
        }
        Due d = new Due();
        int asked = d.choose(d.name(3), d.number(5), d.number(6));
        dueAgrees(d, power(d, 31, asked), "5");
        dueAgrees(d, power(d, 32, asked), "6");
    }

    /** SAME: "the number 1, if both are the same, otherwise 0". */
    private static void oneOrZero() {
        Due d = new Due();
        int[] numbers = {d.number(-99), d.number(-1), d.number(0), d.number(1), d.number(99)};
        for (int first = 0; first < numbers.length; first++) {
            for (int second = 0; second < numbers.length; second++) {
                int same = d.same(numbers[first], numbers[second]);
                d.dueDone(same, first == second ? "1 4" : "0 4");
            }
        }
        d.dueDone(d.same(numbers[2], d.plus(numbers[1], numbers[3])), "1 6");
    }

    // ---- the order in which terms are done

    private static int endless(Due d) {
        return d.rec(9, d.name(9), d.name(9));
    }

    /** "parts .., those that are needed alone": what is not needed can be endless. */
    private static void thoseThatAreNeededAlone() {
        Due d = new Due();
        int endless = endless(d);
        int one = d.number(1);
        d.dueDone(endless, "too far 1000");
        d.dueDone(d.choose(one, one, endless), "1 3");
        d.dueDone(d.choose(d.number(0), endless, one), "1 3");
        d.dueDone(d.choose(one, endless, one), "too far 1000");
        d.dueDone(d.fun(0, endless), "F 1");
        int last = d.oneCase(2, 0, endless, d.rest(0, endless));
        int cases = d.oneCase(1, 0, one, last);
        d.dueDone(d.match(d.as(1, one), cases), "1 4");
        d.dueDone(d.match(d.as(2, one), cases), "too far 1000");
        d.dueDone(d.match(d.as(3, one), cases), "too far 1000");
        d.dueDone(d.of(1, d.with(1, one, d.with(2, endless, d.empty()))), "too far 1000");
    }

    /** "both parts of GIVE, then the body of the function". */
    private static void bothPartsOfGive() {
        Due d = new Due();
        int one = d.number(1);
        int endless = endless(d);
        d.dueDone(d.give(d.fun(0, one), d.number(2)), "1 4");
        d.dueDone(d.give(d.fun(0, d.name(0)), d.number(2)), "2 4");
        d.dueDone(d.give(d.fun(0, one), endless), "too far 1000");
        d.dueDone(d.give(endless, one), "too far 1000");
        d.dueDone(d.give(d.fun(0, one), d.plus(one, one)), "1 6");
    }

    /** "e of LET and REC ahead of the body, once": though the name is not used, or used often. */
    private static void onceAheadOfTheBody() {
        for (int kind = 4; kind <= 5; kind++) {
            Due d = new Due();
            int x = d.name(0);
            int one = d.number(1);
            int sum = d.plus(one, d.plus(one, one));
            d.dueDone(d.x.named(kind, 0, sum, one), "1 7");
            d.dueDone(d.x.named(kind, 0, sum, x), "3 7");
            d.dueDone(d.x.named(kind, 0, sum, d.plus(x, d.plus(x, x))), "9 11");
            d.dueDone(d.x.named(kind, 0, endless(d), one), "too far 1000");
            d.dueDone(d.x.named(kind, 0, d.fun(0, x), one), "1 3");
        }
    }

    /** "MATCH its first case that has the label, or REST". */
    private static void firstCaseThatHasTheLabel() {
        for (int label = 0; label < 10; label++) {
            Due d = new Due();
            int x = d.name(0);
            int cases = d.rest(0, d.number(70));
            for (int other = 8; other >= 0; other--) {
                cases = d.oneCase(other, 0, other % 2 == 0 ? x : d.number(10 + other), cases);
            }
            int match = d.match(d.as(label, d.number(99)), cases);
            int due = label == 9 ? 70 : label % 2 == 0 ? 99 : 10 + label;
            d.dueDone(match, due + " 4");
        }
        Due d = new Due();
        int x = d.name(0);
        int variant = d.as(4, d.number(6));
        d.dueDone(d.match(variant, d.rest(0, x)), "[4:6] 4");
        d.dueDone(d.match(variant, d.oneCase(4, 0, x, d.noCase())), "6 4");
        int rest = d.oneCase(5, 0, d.as(0, d.number(1)), d.rest(0, x));
        d.dueDone(d.match(variant, rest), "[4:6] 4");
        d.dueDone(d.match(d.as(5, d.empty()), rest), "[0:1] 5");
    }

    /** "Within e of a REC its name is e, which is done anew wherever one comes to it." */
    private static void doneAnew() {
        Due d = new Due();
        int n = d.name(0);
        int f = d.name(1);
        int zero = d.number(0);
        // e is IF, 0, .. around a FUN: three steps each time that one comes to the name within e
        int down = d.give(f, d.plus(n, d.number(-1)));
        int fun = d.fun(0, d.choose(n, down, zero));
        int rec = d.rec(1, d.choose(zero, fun, fun), d.give(f, d.number(2)));
        d.dueDone(rec, "0 " + (1 + 3 + 3 + 2 * (2 + 2 + 3 + 3) + 3));
        // behind e the name is what e came to
        int often = d.rec(1, d.choose(zero, fun, fun), d.plus(d.give(f, zero), d.give(f, zero)));
        d.dueDone(often, "0 " + (1 + 3 + 1 + 6 + 6));
    }

    // ---- sameness

    /** "SAME holds numbers, records by rising labels, and variants .., until two are unlike". */
    private static void untilTwoAreUnlike() {
        Due d = new Due();
        int one = d.number(1);
        int two = d.number(2);
        int like = d.record(one, one, one);
        d.dueDone(d.same(like, d.record(two, one, one)), "0 " + (15 + 2));
        d.dueDone(d.same(like, d.record(one, two, one)), "0 " + (15 + 3));
        d.dueDone(d.same(like, d.record(one, one, two)), "0 " + (15 + 4));
        d.dueDone(d.same(like, like), "1 " + (15 + 4));
        d.dueDone(d.same(like, d.record(two, two, two)), "0 " + (15 + 2));
        Due e = new Due();
        int three = e.number(3);
        int zero = e.with(9, three, e.with(0, three, e.empty()));
        int nine = e.with(0, e.number(4), e.with(9, e.number(5), e.empty()));
        e.dueDone(e.same(zero, nine), "0 " + (11 + 2));
        // the parts of a part are held ahead of the next label
        int deep = e.record(e.record(three), three);
        int other = e.record(e.record(e.number(4)), e.number(4));
        e.dueDone(e.same(deep, other), "0 " + (1 + 7 + 7 + 3));
        e.dueDone(e.same(e.as(0, three), e.as(9, three)), "0 6");
        e.dueDone(e.same(e.as(9, three), e.as(9, e.number(4))), "0 7");
    }

    /** "each two that are held against one another, the whole ones and their parts, are a step". */
    private static void heldPairsAreSteps() {
        Due d = new Due();
        int one = d.number(1);
        d.dueDone(d.same(one, one), "1 " + (3 + 1));
        d.dueDone(d.same(d.empty(), d.empty()), "1 " + (3 + 1));
        int single = d.record(one);
        d.dueDone(d.same(single, single), "1 " + (7 + 2));
        int within = d.record(single, d.empty());
        d.dueDone(d.same(within, within), "1 " + (1 + 7 + 7 + 4));
        int variant = d.as(1, d.as(2, one));
        d.dueDone(d.same(variant, variant), "1 " + (7 + 3));
        d.dueDone(d.plus(d.same(one, one), d.same(one, one)), "2 " + (1 + 4 + 4));
    }

    // ---- steps

    /** "A step is each term, but those of cases, that begins to be done". */
    private static void eachTermIsAStep() {
        Due d = new Due();
        int x = d.name(0);
        int one = d.number(1);
        d.dueDone(one, "1 1");
        d.dueDone(d.empty(), "{} 1");
        d.dueDone(d.fun(0, x), "F 1");
        d.dueDone(d.give(d.fun(0, x), one), "1 4");
        d.dueDone(d.let(0, one, x), "1 3");
        d.dueDone(d.rec(0, one, x), "1 3");
        d.dueDone(d.with(0, one, d.empty()), "{0:1} 3");
        d.dueDone(d.of(0, d.record(one)), "1 4");
        d.dueDone(d.without(0, d.record(one)), "{} 4");
        d.dueDone(d.as(0, one), "[0:1] 2");
        d.dueDone(d.choose(one, one, one), "1 3");
        d.dueDone(d.plus(one, one), "2 3");
        d.dueDone(d.same(one, one), "1 4");
        Due e = new Due();
        int y = e.name(0);
        int variant = e.as(3, e.number(1));
        e.dueDone(e.match(variant, e.rest(0, e.number(2))), "2 4");
        e.dueDone(e.match(variant, e.oneCase(3, 0, y, e.noCase())), "1 4");
        int last = e.oneCase(3, 0, y, e.noCase());
        e.dueDone(e.match(variant, e.oneCase(1, 0, y, e.oneCase(2, 0, y, last))), "1 4");
    }

    /** "What is done again, as a function is given something again, is a step again." */
    private static void doneAgainIsAStepAgain() {
        Due d = new Due();
        int f = d.name(1);
        int fun = d.fun(0, d.plus(d.name(0), d.number(1)));
        int once = d.give(f, d.number(1));
        d.dueDone(d.let(1, fun, once), "2 " + (2 + 6));
        d.dueDone(d.let(1, fun, d.plus(once, once)), "4 " + (2 + 1 + 6 + 6));
        d.dueDone(d.let(1, fun, d.give(f, once)), "3 " + (2 + 6 + 5));
    }

    /** 994 steps: 10, and 8 for each time that the function is given a number that is not 0. */
    private static int steps994(Due d) {
        int n = d.name(0);
        int f = d.name(1);
        int down = d.give(f, d.plus(n, d.number(-1)));
        int count = d.plus(d.number(99), d.number(24));
        return d.rec(1, d.fun(0, d.choose(n, down, n)), d.give(f, count));
    }

    private static int variants(Due d, int count, int last) {
        int term = last;
        for (int number = 0; number < count; number++) {
            term = d.as(7, term);
        }
        return term;
    }

    /** "ahead of the 1001st it is too far": 998 to 1000 steps can be done, 1001 and 1002 cannot. */
    private static void aheadOfThe1001st() {
        Due d = new Due();
        d.dueDone(steps994(d), "0 994");
        d.dueDone(variants(d, 4, steps994(d)), "[7:[7:[7:[7:0]]]] 998");
        d.dueDone(variants(d, 5, steps994(d)), "[7:[7:[7:[7:[7:0]]]]] 999");
        Due e = new Due();
        e.dueDone(variants(e, 6, steps994(e)), "[7:[7:[7:[7:[7:[7:0]]]]]] 1000");
        e.dueDone(variants(e, 7, steps994(e)), "too far 1000");
        e.dueDone(variants(e, 8, steps994(e)), "too far 1000");
        Due.due("run", e.x.run(e.x.made() - 1), -1);
        // the last step is the second part, the body of LET, or that of a function
        Due f = new Due();
        int four = variants(f, 4, steps994(f));
        f.dueDone(f.let(0, four, f.number(3)), "3 1000");
        f.dueDone(f.let(0, f.as(1, four), f.number(3)), "too far 1000");
        int id = f.fun(0, f.number(3));
        int three = variants(f, 3, steps994(f));
        f.dueDone(f.give(id, three), "3 1000");
        f.dueDone(f.give(id, f.as(1, three)), "too far 1000");
    }

    /** "are a step as well .. ahead of the 1001st it is too far": the last step is a held pair. */
    private static void heldPairAheadOfThe1001st() {
        Due d = new Due();
        int zero = d.number(0);
        int loop = steps994(d);
        d.dueDone(d.same(zero, loop), "1 997");
        d.dueDone(d.same(zero, d.plus(zero, loop)), "1 999");
        int more = d.give(d.fun(0, d.name(0)), loop);
        d.dueDone(d.same(zero, more), "1 1000");
        d.dueDone(d.same(d.number(4), more), "0 1000");
        Due e = new Due();
        int none = e.number(0);
        int last = e.same(none, e.plus(none, e.plus(none, steps994(e))));
        e.dueDone(last, "too far 1000");
        // 994 and 4, then the whole ones as the 999th and their parts as the 1000th
        e.dueDone(e.same(e.as(1, none), e.as(1, steps994(e))), "1 1000");
        int within = e.same(e.as(1, e.as(1, none)), e.as(1, e.as(1, steps994(e))));
        e.dueDone(within, "too far 1000");
        // the parts are not held where the labels are unlike
        e.dueDone(e.same(e.as(1, none), e.as(2, steps994(e))), "0 999");
    }

    // ---- texts of results

    /** "The text of a result is that of a number, of a record .. by rising labels, .. a function F". */
    private static void textsOfResults() {
        Due d = new Due();
        int one = d.number(-1);
        d.dueDone(one, "-1 1");
        d.dueDone(d.empty(), "{} 1");
        d.dueDone(d.fun(0, one), "F 1");
        d.dueDone(d.as(9, d.fun(0, one)), "[9:F] 2");
        d.dueDone(d.with(9, one, d.with(0, d.empty(), d.empty())), "{0:{},9:-1} 5");
        d.dueDone(d.with(0, d.as(3, one), d.empty()), "{0:[3:-1]} 4");
        int all = d.empty();
        for (int label : new int[] {5, 0, 9, 3, 7, 1, 8, 2, 6, 4}) {
            all = d.with(label, d.number(label), all);
        }
        d.dueDone(all, "{0:0,1:1,2:2,3:3,4:4,5:5,6:6,7:7,8:8,9:9} 21");
        d.dueDone(d.without(9, d.without(0, all)), "{1:1,2:2,3:3,4:4,5:5,6:6,7:7,8:8} 23");
    }

    private static int doubledSteps(int times) {
        return 2 + 7 * times + 1;
    }

    /** "It ends behind 300 signs.": texts of 299, 300 and 301 signs. */
    private static void resultEndsBehind300Signs() {
        String five = Due.doubledText(5, "{}");
        Due.due("signs of the middle", five.length(), 281);
        Due d = new Due();
        int record = d.with(5, d.number(-9), d.with(6, d.number(-9), d.doubled(5, d.empty())));
        String text = "[1:[2:" + five.substring(0, 280) + ",5:-9,6:-9}]]";
        Due.due("signs", text.length(), 299);
        d.dueDone(d.as(1, d.as(2, record)), text + " " + (doubledSteps(5) + 6));
        Due e = new Due();
        record = e.with(5, e.number(-9), e.with(6, e.number(-99), e.doubled(5, e.empty())));
        text = "[1:[2:" + five.substring(0, 280) + ",5:-9,6:-99}]]";
        Due.due("signs", text.length(), 300);
        int term = e.as(1, e.as(2, record));
        e.dueDone(term, text + " " + (doubledSteps(5) + 6));
        Due.due("run", e.x.run(term), 300);
        Due.due("the 300th sign", e.x.result(299), ']');
        Due f = new Due();
        text = "[1:[2:[3:[4:[5:" + five + "]]]]]";
        Due.due("signs", text.length(), 301);
        int more = f.as(1, f.as(2, f.as(3, f.as(4, f.as(5, f.doubled(5, f.empty()))))));
        f.dueDone(more, text.substring(0, 300) + " " + (doubledSteps(5) + 5));
        Due.due("run", f.x.run(more), 300);
        Due.due("the 301st sign", f.x.result(300), ' ');
        // a number that is cut
        Due g = new Due();
        int cut = g.with(5, g.number(-9), g.with(6, g.number(-99),
                g.with(7, g.number(-98), g.doubled(5, g.empty()))));
        text = five.substring(0, 280) + ",5:-9,6:-99,7:-98}";
        Due.due("signs", text.length(), 298);
        g.dueDone(g.as(1, cut), ("[1:" + text + "]").substring(0, 300) + " "
                + (doubledSteps(5) + 7));
    }

    // ---- run, steps, result

    /** run: "Returns how many signs the text of the result has; -1 if it was too far." */
    private static void howManySigns() {
        Due d = new Due();
        Due.due("run of 7", d.x.run(d.number(7)), 1);
        Due.due("run of -99", d.x.run(d.number(-99)), 3);
        Due.due("run of {}", d.x.run(d.empty()), 2);
        Due.due("run of F", d.x.run(d.fun(0, d.number(1))), 1);
        Due.due("run, the longest", d.x.run(d.doubled(11, d.empty())), 300);
        Due.due("run, too far", d.x.run(endless(d)), -1);
    }

    /** steps: "Returns how many steps the latest run() took, at most 1000; 0 if there was none." */
    private static void stepsAtMost1000() {
        Due d = new Due();
        Due.due("there was none", d.x.steps(), 0);
        int one = d.number(1);
        int bad = d.name(1);
        d.x.check(one);
        d.x.agrees(one);
        d.dueThrow("run", STATE, () -> d.x.run(bad));
        d.dueThrow("run", INDEX, () -> d.x.run(99));
        Due.due("there was none", d.x.steps(), 0);
        d.x.run(one);
        Due.due("the fewest", d.x.steps(), 1);
        int loop = variants(d, 6, steps994(d));
        d.x.run(loop);
        Due.due("the most", d.x.steps(), 1000);
        d.x.run(d.as(1, loop));
        Due.due("too far", d.x.steps(), 1000);
        d.x.run(d.plus(one, one));
        Due.due("the latest", d.x.steps(), 3);
        d.dueThrow("run", STATE, () -> d.x.run(bad));
        d.x.agrees(loop);
        Due.due("the latest", d.x.steps(), 3);
    }

    /** result: "a blank behind the end, or if there is no result, or it was too far". */
    private static void blankBehindTheEnd() {
        Due d = new Due();
        for (int at : new int[] {0, 1, 299, 300, MOST}) {
            Due.due("there is no result", d.x.result(at), ' ');
        }
        int term = d.number(-42);
        int bad = d.name(0);
        d.x.agrees(term);
        d.dueThrow("run", STATE, () -> d.x.run(bad));
        Due.due("there is no result", d.x.result(0), ' ');
        Due.due("run", d.x.run(term), 3);
        Due.due("result 0", d.x.result(0), '-');
        Due.due("result 1", d.x.result(1), '4');
        Due.due("result 2", d.x.result(2), '2');
        for (int at : new int[] {3, 4, 299, 300, 301, MOST}) {
            Due.due("behind the end", d.x.result(at), ' ');
        }
        Due.due("run", d.x.run(endless(d)), -1);
        for (int at : new int[] {0, 1, 2, 3, 300, MOST}) {
            Due.due("it was too far", d.x.result(at), ' ');
        }
        Due.due("run", d.x.run(d.number(7)), 1);
        Due.due("a shorter one", d.x.result(0), '7');
        Due.due("behind a shorter one", d.x.result(1), ' ');
        Due.due("run", d.x.run(d.doubled(11, d.empty())), 300);
        Due.due("the 300th sign", d.x.result(299) != ' ', true);
        Due.due("behind the 300th sign", d.x.result(300), ' ');
    }

    /** result: "if at is below 0"; run, agrees, places: "as told". */
    private static void noSuchSign() {
        Due d = new Due();
        for (int at : new int[] {-1, -2, LEAST}) {
            d.dueThrow("result of a new object", INDEX, () -> d.x.result(at));
        }
        int one = d.number(1);
        int let = d.let(0, one, one);
        d.x.run(one);
        for (int at : new int[] {-1, -2, LEAST}) {
            d.dueThrow("result", INDEX, () -> d.x.result(at));
        }
        Due.due("result 0", d.x.result(0), '1');
        for (int term : new int[] {-1, 2, 120, LEAST, MOST}) {
            d.dueThrow("run", INDEX, () -> d.x.run(term));
            d.dueThrow("agrees", INDEX, () -> d.x.agrees(term));
            d.dueThrow("places", INDEX, () -> d.x.places(term, let));
            d.dueThrow("places", INDEX, () -> d.x.places(let, term));
        }
        Due.due("the last term", d.x.run(let), 1);
    }

    // ---- the machine

    /** "a place is handed in with the name, wherever it stands in the body, and e is done with these". */
    private static void namesStandForTheirPlaces() {
        Due d = new Due();
        int x = d.name(0);
        int f = d.name(1);
        int low = d.with(5, d.number(50), d.with(2, d.number(20), d.empty()));
        int high = d.with(5, d.number(51), d.with(7, d.number(70), d.empty()));
        for (int kind = 4; kind <= 5; kind++) {
            int both = d.x.named(kind, 1, d.fun(0, d.of(5, x)),
                    d.record(d.give(f, low), d.give(f, high)));
            dueAgrees(d, both, "{0:50,1:51}");
        }
        // e is a variant, whose place is another one where other labels are in its row
        Due e = new Due();
        int v = e.name(1);
        int five = e.as(5, e.number(1));
        int wide = e.choose(e.number(1), v, e.as(2, e.number(3)));
        int wider = e.choose(e.number(1), wide, e.as(3, e.number(3)));
        dueAgrees(e, e.let(1, five, e.with(0, v, e.with(1, wide, e.with(2, wider, e.empty())))),
                "{0:[5:1],1:[5:1],2:[5:1]}");
    }

    /** "for each variable of rows .., and each label that it must lack, a place is handed in". */
    private static void eachRowAndEachLabel() {
        Due d = new Due();
        int x = d.name(0);
        int y = d.name(1);
        int both = d.plus(d.plus(d.of(3, x), d.of(7, x)), d.of(8, y));
        int fun = d.fun(0, d.fun(1, both));
        int first = d.empty();
        int second = d.empty();
        for (int label : new int[] {3, 5, 7}) {
            first = d.with(label, d.number(label), first);
        }
        for (int label : new int[] {1, 2, 8}) {
            second = d.with(label, d.number(10 * label), second);
        }
        int use = d.let(2, fun, d.give(d.give(d.name(2), first), second));
        dueAgrees(d, use, "90");
        Due.due("places", d.x.places(use, use), 3);
    }

    /** "e is done with these there": e of an inner LET stands by the places of the outer one too. */
    private static void placesOfNamesAround() {
        Due d = new Due();
        int inner = d.fun(1, d.plus(d.of(3, d.name(0)), d.of(5, d.name(1))));
        int low = d.with(5, d.number(1), d.empty());
        int given = d.let(2, inner, d.give(d.name(2), low));
        int record = d.with(2, d.number(20), d.with(3, d.number(30), d.empty()));
        int outer = d.let(4, d.fun(0, given), d.give(d.name(4), record));
        dueAgrees(d, outer, "31");
        Due.due("places of the inner name", d.x.places(given, outer), 1);
        Due.due("places of the outer name", d.x.places(outer, outer), 1);
        int high = d.with(4, d.number(2), d.with(5, d.number(3), d.empty()));
        int other = d.let(2, inner, d.give(d.name(2), high));
        int three = d.with(3, d.number(40), d.empty());
        dueAgrees(d, d.let(4, d.fun(0, other), d.give(d.name(4), three)), "43");
    }

    /** "go by how many labels of the row that lacks the label are less than it": of 0 none are. */
    private static void leastAndGreatestLabels() {
        for (int label = 0; label < 10; label++) {
            Due d = new Due();
            int x = d.name(0);
            int all = d.empty();
            for (int other = 0; other < 10; other++) {
                all = other == label ? all : d.with(other, d.number(other), all);
            }
            int changed = d.with(label, d.number(77), x);
            int fun = d.fun(0, d.of(label, changed));
            dueAgrees(d, d.let(1, fun, d.give(d.name(1), all)), "77");
            Due e = new Due();
            int whole = e.empty();
            StringBuilder left = new StringBuilder();
            for (int other = 9; other >= 0; other--) {
                whole = e.with(other, e.number(other), whole);
            }
            for (int other = 0; other < 10; other++) {
                String part = (left.length() == 0 ? "" : ",") + other + ":" + other;
                left.append(other == label ? "" : part);
            }
            int drop = e.fun(0, e.without(label, e.name(0)));
            dueAgrees(e, e.let(1, drop, e.give(e.name(1), whole)), "{" + left + "}");
        }
    }

    /** "REST counts places anew, without the labels of the cases." */
    private static void restCountsAnew() {
        for (int label = 1; label < 10; label += 2) {
            Due d = new Due();
            int x = d.name(0);
            int last = d.rest(0, d.number(-1));
            for (int other = 1; other < 10; other += 2) {
                last = d.oneCase(other, 2, d.number(other), last);
            }
            int first = d.oneCase(4, 2, d.number(40), d.rest(0, d.match(x, last)));
            int open = d.fun(0, d.match(x, d.oneCase(0, 2, d.number(90), first)));
            int use = d.let(1, open, d.give(d.name(1), d.as(label, d.empty())));
            dueAgrees(d, use, "" + label);
        }
        Due d = new Due();
        int rest = d.oneCase(0, 0, d.as(9, d.number(1)), d.rest(0, d.name(0)));
        int open = d.fun(0, d.match(d.name(0), rest));
        int use = d.let(1, open, d.give(d.name(1), d.as(5, d.number(2))));
        dueAgrees(d, use, "[5:2]");
        int zero = d.let(1, open, d.give(d.name(1), d.as(0, d.number(2))));
        dueAgrees(d, zero, "[9:1]");
    }

    /** "A variable of rows that is general nowhere stands for nothing." */
    private static void generalNowhere() {
        Due d = new Due();
        int x = d.name(0);
        int one = d.number(1);
        dueAgrees(d, d.as(9, one), "[9:1]");
        dueAgrees(d, d.choose(one, d.as(9, one), d.as(0, one)), "[9:1]");
        dueAgrees(d, d.match(d.as(5, one), d.oneCase(2, 0, x, d.rest(0, d.number(3)))), "3");
        dueAgrees(d, d.match(d.as(5, one), d.oneCase(5, 0, x, d.rest(0, d.number(3)))), "1");
        dueAgrees(d, d.fun(0, d.with(3, one, x)), "F");
        // it is in no type of a name, though within the e of a LET
        int within = d.match(d.as(5, one), d.oneCase(2, 0, x, d.rest(0, d.number(3))));
        int let = d.let(1, within, d.plus(d.name(1), d.name(1)));
        dueAgrees(d, let, "6");
        Due.due("places", d.x.places(let, let), 0);
        // it is in the type of a name that is known around the LET
        int known = d.let(1, d.without(4, x), d.of(6, d.name(1)));
        int given = d.give(d.fun(0, known), d.with(4, one, d.with(6, d.number(8), d.empty())));
        dueAgrees(d, given, "8");
        Due.due("places", d.x.places(known, given), 0);
    }

    // ---- agrees

    /** agrees: "true as well, if run() would be too far". */
    private static void agreesIfTooFar() {
        Due d = new Due();
        Due.due("agrees", d.x.agrees(endless(d)), true);
        Due.due("agrees", d.x.agrees(d.let(0, endless(d), d.number(1))), true);
        int loop = variants(d, 6, steps994(d));
        Due.due("agrees, 1000 steps", d.x.agrees(loop), true);
        Due.due("agrees, 1001 steps", d.x.agrees(d.as(1, loop)), true);
        Due e = new Due();
        int forever = e.rec(1, e.fun(0, e.give(e.name(1), e.name(0))), e.give(e.name(1),
                e.number(1)));
        Due.due("agrees", e.x.agrees(forever), true);
    }

    /**
     * agrees: "true as well, if .. the machine .. has too much to do": what takes it 700 steps is
     * done for four places here, two of the inner name for each two of the outer one.
     */
    private static void agreesIfTooMuchToDo() {
        Due d = new Due();
        int n = d.name(0);
        int f = d.name(1);
        int down = d.give(f, d.plus(n, d.number(-1)));
        int loop = d.rec(1, d.fun(0, d.choose(n, down, n)), d.give(f, d.number(99)));
        int u = d.name(2);
        int inner = d.let(2, d.as(9, loop), d.match(u, d.oneCase(8, 0, u, d.rest(0, u))));
        int v = d.name(3);
        int twice = d.oneCase(8, 0, v, d.oneCase(7, 0, v, d.rest(0, v)));
        int outer = d.let(3, inner, d.match(v, twice));
        d.dueDone(outer, "[9:0] " + (3 + 800 + 3 + 3));
        Due.due("places of the inner name", d.x.places(inner, outer), 1);
        Due.due("places of the outer name", d.x.places(outer, outer), 1);
    }

    /** agrees: "The latest result stays as it is." */
    private static void latestResultStays() {
        Due d = new Due();
        int term = d.number(-42);
        int other = d.doubled(5, d.empty());
        int endless = endless(d);
        Due.due("agrees ahead of a result", d.x.agrees(other), true);
        Due.due("result", d.x.result(0), ' ');
        Due.due("steps", d.x.steps(), 0);
        Due.due("run", d.x.run(term), 3);
        Due.due("agrees", d.x.agrees(other), true);
        Due.due("agrees", d.x.agrees(endless), true);
        Due.due("agrees", d.x.agrees(d.number(7)), true);
        Due.due("result", "" + d.x.result(0) + d.x.result(1) + d.x.result(2) + d.x.result(3),
                "-42 ");
        Due.due("steps", d.x.steps(), 1);
        Due.due("run", d.x.run(endless), -1);
        Due.due("agrees", d.x.agrees(term), true);
        Due.due("result behind one that was too far", d.x.result(0), ' ');
        Due.due("steps behind one that was too far", d.x.steps(), 1000);
    }

    // ---- places

    /** places: "Returns how many places are handed in": from none to all labels, of all rows. */
    private static void howManyPlaces() {
        for (int kind = 4; kind <= 5; kind++) {
            for (int count = 0; count <= 10; count++) {
                Due d = new Due();
                int record = d.name(0);
                for (int label = 0; label < count; label++) {
                    record = d.without(9 - label, record);
                }
                int let = d.x.named(kind, 1, d.fun(0, record), d.number(1));
                Due.due("places of " + count + " labels", d.x.places(let, let), count);
            }
        }
        Due d = new Due();
        int two = d.fun(0, d.fun(1, d.plus(d.of(3, d.name(0)), d.of(3, d.name(1)))));
        int let = d.let(2, two, d.number(1));
        Due.due("places of two rows", d.x.places(let, let), 2);
        int lone = d.let(2, d.as(0, d.number(1)), d.number(1));
        Due.due("places of a variant", d.x.places(lone, lone), 1);
    }

    /** "for each variable of rows .., and each label that it must lack": others have no place. */
    private static void lackedLabelsAlone() {
        Due d = new Due();
        int x = d.name(0);
        int one = d.number(1);
        int[] none = {one, d.empty(), d.fun(0, x), d.fun(0, d.same(x, x)),
            d.fun(0, d.match(x, d.rest(1, d.name(1)))), d.with(4, one, d.empty()),
            d.fun(0, d.match(x, d.oneCase(4, 1, one, d.noCase())))};
        for (int e : none) {
            int let = d.let(2, e, one);
            Due.due("places of " + e, d.x.places(let, let), 0);
        }
        int open = d.let(2, d.fun(0, d.match(x, d.oneCase(4, 1, one, d.rest(1, one)))), one);
        Due.due("places of a REST behind a CASE", d.x.places(open, open), 1);
        // the label must be lacked, though it does not stand in the type
        int lacks = d.let(2, d.fun(0, d.without(4, d.with(4, one, x))), one);
        Due.due("places", d.x.places(lacks, lacks), 1);
    }

    /** "with the types that it has there (what is general does not change by what is found later)". */
    private static void laterTypesDoNotCount() {
        Due d = new Due();
        int x = d.name(0);
        int y = d.name(1);
        int one = d.number(1);
        int later = d.let(1, d.without(4, x), d.without(6, d.without(5, y)));
        Due.due("places", d.x.places(later, d.fun(0, later)), 0);
        int general = d.let(1, d.fun(2, d.without(4, d.name(2))), d.fun(3, d.without(6,
                d.give(y, d.name(3)))));
        Due.due("places", d.x.places(general, general), 1);
        int closed = d.let(1, d.fun(2, d.without(4, d.name(2))), d.give(y, d.with(4, one,
                d.with(5, one, d.empty()))));
        Due.due("places", d.x.places(closed, closed), 1);
    }

    /** "of several such places in the term the greatest number": ahead of it, behind it, between. */
    private static void greatestOfSeveralPlaces() {
        for (int order = 0; order < 3; order++) {
            Due d = new Due();
            int x = d.name(0);
            int one = d.number(1);
            int let = d.let(1, d.without(2, x), one);
            // x is known around it, then it is general
            int known = d.give(d.fun(0, let), d.with(2, one, d.empty()));
            int general = d.rec(0, x, let);
            int[] parts = {order == 0 ? general : known, order == 1 ? general : known,
                order == 2 ? general : known};
            int whole = d.record(parts);
            Due.due("places, known", d.x.places(let, known), 0);
            Due.due("places, general", d.x.places(let, general), 1);
            Due.due("places, the greatest", d.x.places(let, whole), 1);
        }
        Due d = new Due();
        int x = d.name(0);
        int let = d.let(1, x, d.number(1));
        // x is the record of a row that lacks one label, two labels, none
        int first = d.rec(0, d.without(2, d.rec(3, d.name(3), d.name(3))), let);
        int second = d.rec(0, d.without(2, d.without(4, d.rec(3, d.name(3), d.name(3)))), let);
        Due.due("places", d.x.places(let, first), 1);
        Due.due("places", d.x.places(let, second), 2);
        Due.due("places", d.x.places(let, d.plus(first, second)), 2);
        Due.due("places", d.x.places(let, d.plus(second, first)), 2);
    }

    /** "a term in which it stands, or that it is"; "-1 if it does not stand there". */
    private static void doesNotStandThere() {
        Due d = new Due();
        int one = d.number(1);
        int let = d.let(0, one, one);
        int like = d.let(0, one, one);
        int whole = d.plus(let, one);
        Due.due("that it is", d.x.places(let, let), 0);
        Due.due("in which it stands", d.x.places(let, whole), 0);
        Due.due("in its part", d.x.places(let, one), -1);
        Due.due("in one that is like it", d.x.places(like, let), -1);
        Due.due("in what it does not stand in", d.x.places(like, whole), -1);
        Due.due("the other way round", d.x.places(let, like), -1);
        Due.due("in e", d.x.places(let, d.rec(1, let, one)), 0);
        Due.due("in the body", d.x.places(let, d.let(1, one, let)), 0);
        int last = d.oneCase(2, 1, let, d.noCase());
        int match = d.match(d.as(2, one), d.oneCase(1, 1, one, last));
        Due.due("in a CASE", d.x.places(let, match), 0);
        Due.due("in a REST", d.x.places(let, d.match(d.as(2, one), d.rest(1, let))), 0);
        Due.due("in what is not done", d.x.places(let, d.choose(one, one, let)), 0);
        // it stands there with a type, though it has none of its own
        int open = d.let(1, d.name(5), one);
        Due.due("check", d.x.check(open), 1);
        Due.due("in a FUN", d.x.places(open, d.fun(5, open)), 0);
        Due.due("not there", d.x.places(open, one), -1);
    }

    /** places: "IllegalArgumentException if the term is neither a LET nor a REC". */
    private static void neitherLetNorRec() {
        Due d = new Due();
        int one = d.number(1);
        int none = d.noCase();
        int let = d.let(0, one, one);
        int rec = d.rec(0, one, one);
        int[] wrong = {one, d.name(0), d.fun(0, let), d.give(one, one), d.empty(),
            d.with(0, let, one), d.of(0, let), d.without(0, let), d.as(0, let),
            d.match(let, none), d.choose(one, let, let), d.plus(let, let), d.same(let, let), none,
            d.rest(0, let), d.oneCase(0, 0, let, none)};
        for (int term : wrong) {
            d.dueThrow("places of " + term, ARGUMENT, () -> d.x.places(term, let));
        }
        Due.due("places of a LET", d.x.places(let, let), 0);
        Due.due("places of a REC", d.x.places(rec, rec), 0);
        for (int untyped : new int[] {none, d.name(0), d.plus(let, d.empty())}) {
            d.dueThrow("places in " + untyped, STATE, () -> d.x.places(let, untyped));
        }
    }
}
