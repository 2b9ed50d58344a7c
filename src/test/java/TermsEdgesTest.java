/**
 * The sentences of the chapter Terms, and of promises 1 to 6, that name a boundary case. Each has a
 * test of its own, with the sentence above it: at the edge, and one step beyond on either side.
 */
public final class TermsEdgesTest {
    private static final Class<?> ARGUMENT = IllegalArgumentException.class;
    private static final Class<?> INDEX = IndexOutOfBoundsException.class;
    private static final Class<?> STATE = IllegalStateException.class;

    private static final int LEAST = Integer.MIN_VALUE;
    private static final int MOST = Integer.MAX_VALUE;
    private static final int[] ONE_PART = {2, 8, 9, 10, 16};
    private static final int[] TWO_PARTS = {4, 5, 7};
    private static final int[] TWO_MADE = {3, 13, 14};

    public static void main(String[] args) {
        beginsWithoutTerms();
        atMost512Calls();
        numbersOfNumber();
        namesAre0To9();
        labelsAre0To9();
        leafKinds();
        namedKinds();
        madeKinds();
        whichCountsForNothing();
        secondCountsForNothing();
        thirdCountsForNothing();
        numberedFrom0();
        atMost120();
        madeOfEarlierOnes();
        weightOfLeaves();
        weightOfOnePart();
        weightOfTwoParts();
        weightOfThreeParts();
        weightOfCases();
        weightOfPartsTogether();
        weightCountsOn();
        casesNowhereElse();
        casesInTheirPlaces();
        termsTellsHowMany();
        Due.end();
    }

    /** Of this weight: a chain of OF. */
    private static int heavy(Due d, int weight) {
        int term = d.name(0);
        for (int more = 1; more < weight; more++) {
            term = d.of(0, term);
        }
        return term;
    }

    /** Cases of this weight, 3 or more: a CASE and an END. */
    private static int heavyCases(Due d, int weight) {
        return d.oneCase(0, 0, heavy(d, weight - 2), d.noCase());
    }

    /** "Begins without terms." */
    private static void beginsWithoutTerms() {
        Due d = new Due();
        Due.due("terms", d.x.terms(), 0);
        d.dueThrow("check(0) of a new object", INDEX, () -> d.x.check(0));
        Due.due("the first term", d.number(7), 0);
        Due.due("terms", d.x.terms(), 1);
        Due.due("check(0)", d.x.check(0), 0);
        d.dueThrow("check(1)", INDEX, () -> d.x.check(1));
        Due other = new Due();
        Due.due("terms of another object", other.x.terms(), 0);
        other.dueThrow("check(0) of another object", INDEX, () -> other.x.check(0));
    }

    /** "An object is used for at most 512 calls after it has been made": the last ones hold too. */
    private static void atMost512Calls() {
        RowenTongue x = new RowenTongue();
        int calls = 0;
        for (int number = 0; number < 119; number++) {
            Due.due("a term", x.leaf(0, number - 20), number);
            calls++;
        }
        Due.due("the 120th term", x.named(10, 4, 118, 0), 119);
        calls++;
        while (calls < 507) {
            int term = calls % 119;
            Due.due("run", x.run(term), term < 11 ? 3 : term < 20 ? 2 : term < 30 ? 1 : 2);
            calls++;
        }
        Due.due("the 508th call", x.run(119), 6);
        Due.due("the 509th call", x.check(119), 0);
        Due.due("the 510th call", x.size(119), 11);
        Due.due("the 511th call", x.agrees(119), true);
        Due.due("the 512th call", x.result(1), '4');
    }

    /** "0 NUMBER n, -99 to 99." */
    private static void numbersOfNumber() {
        Due d = new Due();
        for (int good : new int[] {-99, -98, -1, 0, 1, 98, 99}) {
            d.dueDone(d.number(good), good + " 1");
        }
        for (int wrong : new int[] {-100, 100, LEAST, MOST}) {
            d.dueThrow("a NUMBER of " + wrong, ARGUMENT, () -> d.x.leaf(0, wrong));
        }
    }

    /** "Names are 0 to 9": of NAME, FUN, LET, REC, REST and CASE. */
    private static void namesAre0To9() {
        for (int good : new int[] {0, 1, 8, 9}) {
            Due d = new Due();
            int name = d.name(good);
            d.dueError(name, 1, name);
            d.dueType(d.fun(good, name), "(a>a)");
            d.dueType(d.let(good, d.number(1), name), "N");
            d.dueType(d.rec(good, d.number(1), name), "N");
            d.dueType(d.match(d.as(1, d.empty()), d.rest(good, name)), "[1:{}|a] a/1");
            int cases = d.oneCase(1, good, name, d.noCase());
            d.dueType(d.match(d.as(1, d.empty()), cases), "{}");
            int other = d.name((good + 1) % 10);
            d.dueError(d.fun(good, other), 1, other);
        }
        for (int wrong : new int[] {-1, 10, LEAST, MOST}) {
            Due d = new Due();
            int one = d.number(1);
            int none = d.noCase();
            d.dueThrow("a NAME", ARGUMENT, () -> d.x.leaf(1, wrong));
            for (int kind : new int[] {2, 4, 5, 16}) {
                d.dueThrow("the name of " + kind, ARGUMENT, () -> d.x.named(kind, wrong, one, one));
            }
            d.dueThrow("the name of a CASE", ARGUMENT, () -> d.x.match(1, wrong, one, none));
        }
    }

    /** "labels 0 to 9": of WITH, OF, WITHOUT, AS and CASE. */
    private static void labelsAre0To9() {
        for (int good : new int[] {0, 1, 8, 9}) {
            Due d = new Due();
            int record = d.with(good, d.number(1), d.empty());
            d.dueDone(record, "{" + good + ":1} 3");
            d.dueDone(d.of(good, record), "1 4");
            d.dueDone(d.without(good, record), "{} 4");
            int variant = d.as(good, d.number(2));
            d.dueDone(variant, "[" + good + ":2] 2");
            int cases = d.oneCase(good, 0, d.name(0), d.noCase());
            d.dueDone(d.match(variant, cases), "2 4");
            int other = d.of((good + 1) % 10, record);
            d.dueError(other, 6, other);
        }
        for (int wrong : new int[] {-1, 10, LEAST, MOST}) {
            Due d = new Due();
            int one = d.number(1);
            int none = d.noCase();
            for (int kind : new int[] {7, 8, 9, 10}) {
                d.dueThrow("the label of " + kind, ARGUMENT,
                        () -> d.x.named(kind, wrong, one, one));
            }
            d.dueThrow("the label of a CASE", ARGUMENT, () -> d.x.match(wrong, 1, one, none));
        }
    }

    /** leaf: "kind: 0, 1, 6 or 15"; "if kind is none of these". */
    private static void leafKinds() {
        for (int kind = -2; kind < 20; kind++) {
            Due d = new Due();
            int asked = kind;
            if (kind == 0 || kind == 1 || kind == 6 || kind == 15) {
                Due.due("leaf of kind " + kind, d.x.leaf(kind, 5), 0);
            } else {
                d.dueThrow("leaf of kind " + kind, ARGUMENT, () -> d.x.leaf(asked, 5));
            }
        }
        Due d = new Due();
        d.dueThrow("leaf of the least kind", ARGUMENT, () -> d.x.leaf(LEAST, 5));
        d.dueThrow("leaf of the greatest kind", ARGUMENT, () -> d.x.leaf(MOST, 5));
    }

    /** named: "kind: 2, 4, 5, 7, 8, 9, 10 or 16"; "if kind or which is out of range". */
    private static void namedKinds() {
        for (int kind = -2; kind < 20; kind++) {
            Due d = new Due();
            int one = d.number(1);
            int asked = kind;
            if (kind == 2 || kind == 4 || kind == 5 || kind >= 7 && kind <= 10 || kind == 16) {
                Due.due("named of kind " + kind, d.x.named(kind, 5, one, one), 1);
            } else {
                d.dueThrow("named of kind " + kind, ARGUMENT, () -> d.x.named(asked, 5, one, one));
            }
        }
        Due d = new Due();
        int one = d.number(1);
        d.dueThrow("named of the least kind", ARGUMENT, () -> d.x.named(LEAST, 5, one, one));
        d.dueThrow("named of the greatest kind", ARGUMENT, () -> d.x.named(MOST, 5, one, one));
    }

    /** made: "kind: 3, 11, 12, 13 or 14"; "if kind is none of these". */
    private static void madeKinds() {
        for (int kind = -2; kind < 20; kind++) {
            Due d = new Due();
            int one = d.number(1);
            int second = kind == 11 ? d.noCase() : d.number(2);
            int asked = kind;
            if (kind == 3 || kind >= 11 && kind <= 14) {
                Due.due("made of kind " + kind, d.x.made(kind, one, second, one), 2);
            } else {
                d.dueThrow("made of kind " + kind, ARGUMENT,
                        () -> d.x.made(asked, one, second, one));
            }
        }
        Due d = new Due();
        int one = d.number(1);
        d.dueThrow("made of the least kind", ARGUMENT, () -> d.x.made(LEAST, one, one, one));
        d.dueThrow("made of the greatest kind", ARGUMENT, () -> d.x.made(MOST, one, one, one));
    }

    /** leaf: which: "for others it counts for nothing": for EMPTY and END. */
    private static void whichCountsForNothing() {
        Due d = new Due();
        for (int which : new int[] {LEAST, -100, -1, 0, 10, 100, MOST}) {
            int empty = d.x.leaf(6, which);
            d.dueDone(empty, "{} 1");
            int none = d.x.leaf(15, which);
            d.dueType(d.fun(0, d.match(d.name(0), none)), "([]>a)");
        }
    }

    /** named: second: "for kinds of two; for others it counts for nothing". */
    private static void secondCountsForNothing() {
        for (int kind : ONE_PART) {
            Due d = new Due();
            int one = d.number(1);
            int none = d.noCase();
            int next = d.x.terms();
            for (int second : new int[] {LEAST, -1, none, next + 5, 120, MOST}) {
                Due.due("named " + kind + " and " + second, d.x.named(kind, 0, one, second), next);
                next++;
            }
        }
        for (int kind : TWO_PARTS) {
            Due d = new Due();
            int one = d.number(1);
            int none = d.noCase();
            for (int second : new int[] {LEAST, -1, none, 2, 120, MOST}) {
                d.dueThrow("named " + kind, INDEX, () -> d.x.named(kind, 0, one, second));
            }
        }
    }

    /** made: third: "for IF; for others it counts for nothing". */
    private static void thirdCountsForNothing() {
        for (int kind : new int[] {3, 11, 13, 14}) {
            Due d = new Due();
            int one = d.number(1);
            int none = d.noCase();
            int next = d.x.terms();
            int second = kind == 11 ? none : one;
            for (int third : new int[] {LEAST, -1, none, next + 5, 120, MOST}) {
                Due.due("made " + kind, d.x.made(kind, one, second, third), next);
                next++;
            }
        }
        Due d = new Due();
        int one = d.number(1);
        int none = d.noCase();
        for (int third : new int[] {LEAST, -1, none, 2, 120, MOST}) {
            d.dueThrow("made 12", INDEX, () -> d.x.made(12, one, one, third));
        }
    }

    /** "Terms are numbered from 0 as they are made": what is refused has no number. */
    private static void numberedFrom0() {
        Due d = new Due();
        d.dueThrow("leaf", ARGUMENT, () -> d.x.leaf(0, 100));
        Due.due("the first term", d.x.leaf(0, 1), 0);
        d.dueThrow("named", INDEX, () -> d.x.named(2, 0, 1, 0));
        Due.due("the second one", d.x.named(2, 0, 0, 0), 1);
        d.dueThrow("made", INDEX, () -> d.x.made(3, 1, 2, 0));
        Due.due("the third one", d.x.made(3, 1, 0, 0), 2);
        Due.due("the fourth one", d.x.leaf(15, 1), 3);
        d.dueThrow("match", ARGUMENT, () -> d.x.match(10, 0, 0, 3));
        Due.due("the fifth one", d.x.match(9, 0, 0, 3), 4);
        Due.due("one that is like another one", d.x.leaf(0, 1), 5);
    }

    private static Due withTerms(int count) {
        Due d = new Due();
        d.number(1);
        d.noCase();
        while (d.x.terms() < count) {
            d.empty();
        }
        return d;
    }

    private static int makeOne(Due d, int way) {
        switch (way) {
            case 0:
                return d.x.leaf(0, 1);
            case 1:
                return d.x.leaf(1, 1);
            case 2:
                return d.x.leaf(6, 1);
            case 3:
                return d.x.leaf(15, 1);
            case 4:
                return d.x.named(2, 1, 0, 0);
            case 5:
                return d.x.named(7, 1, 0, 0);
            case 6:
                return d.x.named(16, 1, 0, 0);
            case 7:
                return d.x.made(3, 0, 0, 0);
            case 8:
                return d.x.made(11, 0, 1, 0);
            case 9:
                return d.x.made(12, 0, 0, 0);
            default:
                return d.x.match(1, 1, 0, 1);
        }
    }

    /** "at most 120"; "if there are 120". */
    private static void atMost120() {
        for (int way = 0; way <= 10; way++) {
            int asked = way;
            Due before = withTerms(118);
            Due.due("the 119th term", makeOne(before, way), 118);
            Due.due("the 120th term", makeOne(before, way), 119);
            Due.due("terms", before.x.terms(), 120);
            before.dueThrow("the 121st term", STATE, () -> makeOne(before, asked));
            before.dueThrow("the 121st term", STATE, () -> makeOne(before, asked));
            Due.due("check of the 120th term", before.x.check(119) >= 0, true);
            before.dueThrow("check of the 121st term", INDEX, () -> before.x.check(120));
        }
    }

    /** "each made of earlier ones": the latest term can be a part, the next one cannot. */
    private static void madeOfEarlierOnes() {
        Due d = new Due();
        int one = d.number(1);
        int none = d.noCase();
        Due.due("of the latest", d.x.named(2, 0, d.number(2), 0), 3);
        for (int wrong : new int[] {4, -1, LEAST, MOST}) {
            for (int kind : ONE_PART) {
                d.dueThrow("named " + kind, INDEX, () -> d.x.named(kind, 0, wrong, one));
            }
            for (int kind : TWO_PARTS) {
                d.dueThrow("named " + kind, INDEX, () -> d.x.named(kind, 0, wrong, one));
                d.dueThrow("named " + kind, INDEX, () -> d.x.named(kind, 0, one, wrong));
            }
        }
        Due m = new Due();
        m.number(1);
        m.noCase();
        for (int wrong : new int[] {2, -1, LEAST, MOST}) {
            for (int kind : TWO_MADE) {
                m.dueThrow("made " + kind, INDEX, () -> m.x.made(kind, wrong, one, one));
                m.dueThrow("made " + kind, INDEX, () -> m.x.made(kind, one, wrong, one));
            }
            m.dueThrow("made 11", INDEX, () -> m.x.made(11, wrong, none, one));
            m.dueThrow("made 11", INDEX, () -> m.x.made(11, one, wrong, one));
            m.dueThrow("made 12", INDEX, () -> m.x.made(12, wrong, one, one));
            m.dueThrow("made 12", INDEX, () -> m.x.made(12, one, wrong, one));
            m.dueThrow("made 12", INDEX, () -> m.x.made(12, one, one, wrong));
            m.dueThrow("match", INDEX, () -> m.x.match(0, 0, wrong, none));
            m.dueThrow("match", INDEX, () -> m.x.match(0, 0, one, wrong));
        }
    }

    /** "of a weight, 1 more than that of those together": of NUMBER, NAME, EMPTY and END it is 1. */
    private static void weightOfLeaves() {
        for (int kind : new int[] {0, 1, 6}) {
            Due d = new Due();
            int leaf = d.x.leaf(kind, 0);
            int long28 = heavy(d, 28);
            int long29 = heavy(d, 29);
            Due.due("1 and 28 and 1", d.plus(long28, leaf), d.x.terms() - 1);
            d.dueThrow("1 and 29 and 1", STATE, () -> d.plus(long29, leaf));
        }
        Due d = new Due();
        int none = d.noCase();
        int long28 = heavy(d, 28);
        int long29 = heavy(d, 29);
        Due.due("1 and 28 and 1", d.match(long28, none), d.x.terms() - 1);
        d.dueThrow("1 and 29 and 1", STATE, () -> d.match(long29, none));
    }

    /** "at most 30": FUN, OF, WITHOUT, AS and REST. */
    private static void weightOfOnePart() {
        for (int kind : ONE_PART) {
            Due d = new Due();
            int long29 = heavy(d, 29);
            int long30 = heavy(d, 30);
            Due.due("30 of " + kind, d.x.named(kind, 0, long29, long30), 59);
            d.dueThrow("31 of " + kind, STATE, () -> d.x.named(kind, 0, long30, -1));
            Due.due("29 of " + kind, d.x.named(kind, 0, heavy(d, 28), 0), d.x.terms() - 1);
        }
    }

    /** "at most 30": LET, REC, WITH, GIVE, PLUS and SAME. */
    private static void weightOfTwoParts() {
        for (int kind : TWO_PARTS) {
            Due d = new Due();
            int long14 = heavy(d, 14);
            int long15 = heavy(d, 15);
            Due.due("30 of " + kind, d.x.named(kind, 0, long14, long15), 29);
            Due.due("30 of " + kind, d.x.named(kind, 0, long15, long14), 30);
            Due.due("29 of " + kind, d.x.named(kind, 0, long14, long14), 31);
            d.dueThrow("31 of " + kind, STATE, () -> d.x.named(kind, 0, long15, long15));
        }
        for (int kind : TWO_MADE) {
            Due d = new Due();
            int long14 = heavy(d, 14);
            int long15 = heavy(d, 15);
            Due.due("30 of " + kind, d.x.made(kind, long14, long15, long15), 29);
            Due.due("30 of " + kind, d.x.made(kind, long15, long14, long15), 30);
            Due.due("29 of " + kind, d.x.made(kind, long14, long14, -1), 31);
            d.dueThrow("31 of " + kind, STATE, () -> d.x.made(kind, long15, long15, -1));
        }
    }

    /** "at most 30": IF, each of whose parts counts. */
    private static void weightOfThreeParts() {
        Due d = new Due();
        int long9 = heavy(d, 9);
        int long10 = heavy(d, 10);
        Due.due("30 of IF", d.choose(long9, long10, long10), 19);
        Due.due("30 of IF", d.choose(long10, long9, long10), 20);
        Due.due("30 of IF", d.choose(long10, long10, long9), 21);
        Due.due("29 of IF", d.choose(long10, long9, long9), 22);
        d.dueThrow("31 of IF", STATE, () -> d.choose(long10, long10, long10));
    }

    /** "at most 30": MATCH and CASE, whose cases count. */
    private static void weightOfCases() {
        Due d = new Due();
        int long14 = heavy(d, 14);
        int long15 = heavy(d, 15);
        int cases14 = heavyCases(d, 14);
        int cases15 = heavyCases(d, 15);
        int rest15 = d.rest(0, long14);
        int next = d.x.terms();
        Due.due("30 of MATCH", d.match(long14, cases15), next);
        Due.due("30 of MATCH", d.match(long15, cases14), next + 1);
        Due.due("30 of MATCH", d.match(long14, rest15), next + 2);
        Due.due("29 of MATCH", d.match(long14, cases14), next + 3);
        d.dueThrow("31 of MATCH", STATE, () -> d.match(long15, cases15));
        d.dueThrow("31 of MATCH", STATE, () -> d.match(long15, rest15));
        Due.due("30 of CASE", d.oneCase(0, 0, long14, cases15), next + 4);
        Due.due("30 of CASE", d.oneCase(0, 0, long15, cases14), next + 5);
        Due.due("30 of CASE", d.oneCase(0, 0, long14, rest15), next + 6);
        Due.due("29 of CASE", d.oneCase(0, 0, long14, cases14), next + 7);
        d.dueThrow("31 of CASE", STATE, () -> d.oneCase(0, 0, long15, cases15));
        d.dueThrow("31 of CASE", STATE, () -> d.oneCase(0, 0, long15, rest15));
    }

    /** "1 more than that of those together": a part that stands twice counts twice. */
    private static void weightOfPartsTogether() {
        Due d = new Due();
        int one = d.number(1);
        int three = d.plus(one, one);
        int seven = d.plus(three, three);
        int fifteen = d.plus(seven, seven);
        d.dueDone(fifteen, "8 15");
        d.dueThrow("15 and 15 and 1", STATE, () -> d.plus(fifteen, fifteen));
        int eleven = d.plus(seven, three);
        int fourteen = d.choose(one, eleven, one);
        d.dueDone(d.plus(fifteen, fourteen), "14 " + (1 + 15 + 1 + 1 + 11));
    }

    private static int weighing29(Due d, int way) {
        switch (way) {
            case 0:
                return d.fun(0, heavy(d, 28));
            case 1:
                return d.let(0, heavy(d, 14), heavy(d, 14));
            case 2:
                return d.rec(0, heavy(d, 13), heavy(d, 15));
            case 3:
                return d.with(0, heavy(d, 15), heavy(d, 13));
            case 4:
                return d.without(0, heavy(d, 28));
            case 5:
                return d.as(0, heavy(d, 28));
            case 6:
                return d.give(heavy(d, 13), heavy(d, 15));
            case 7:
                return d.plus(heavy(d, 15), heavy(d, 13));
            case 8:
                return d.same(heavy(d, 14), heavy(d, 14));
            case 9:
                return d.choose(heavy(d, 9), heavy(d, 9), heavy(d, 10));
            case 10:
                return d.match(heavy(d, 14), heavyCases(d, 14));
            default:
                return d.match(heavy(d, 14), d.rest(0, heavy(d, 13)));
        }
    }

    /** "of a weight, 1 more than that of those together": of each kind it counts in what is next. */
    private static void weightCountsOn() {
        for (int way = 0; way <= 11; way++) {
            Due d = new Due();
            int long29 = weighing29(d, way);
            int long30 = d.of(0, long29);
            Due.due("30 around " + way, long30, d.x.terms() - 1);
            d.dueThrow("31 around " + way, STATE, () -> d.of(0, long30));
            d.dueThrow("31 around " + way, STATE, () -> d.plus(long29, 0));
        }
        Due d = new Due();
        int one = d.number(1);
        int cases29 = d.oneCase(0, 0, heavy(d, 13), heavyCases(d, 15));
        int next = d.x.terms();
        d.dueThrow("31 around a CASE", STATE, () -> d.match(one, cases29));
        int cases28 = d.oneCase(0, 0, heavy(d, 13), heavyCases(d, 14));
        Due.due("30 around a CASE", d.match(one, cases28), d.x.made() - 1);
        Due.due("terms", d.x.terms() > next, true);
    }

    private static void refusesAsTerm(Due d, int cases) {
        int one = 0;
        int none = 1;
        for (int kind : ONE_PART) {
            d.dueThrow("cases in " + kind, INDEX, () -> d.x.named(kind, 0, cases, one));
        }
        for (int kind : TWO_PARTS) {
            d.dueThrow("cases in " + kind, INDEX, () -> d.x.named(kind, 0, cases, one));
            d.dueThrow("cases in " + kind, INDEX, () -> d.x.named(kind, 0, one, cases));
        }
        for (int kind : TWO_MADE) {
            d.dueThrow("cases in " + kind, INDEX, () -> d.x.made(kind, cases, one, one));
            d.dueThrow("cases in " + kind, INDEX, () -> d.x.made(kind, one, cases, one));
        }
        d.dueThrow("cases in IF", INDEX, () -> d.x.made(12, cases, one, one));
        d.dueThrow("cases in IF", INDEX, () -> d.x.made(12, one, cases, one));
        d.dueThrow("cases in IF", INDEX, () -> d.x.made(12, one, one, cases));
        d.dueThrow("cases as e of MATCH", INDEX, () -> d.x.made(11, cases, none, one));
        d.dueThrow("cases as the body of a CASE", INDEX, () -> d.x.match(0, 0, cases, none));
    }

    /** "Cases .. stand in a MATCH, or in a CASE, and nowhere else". */
    private static void casesNowhereElse() {
        for (int way = 0; way < 3; way++) {
            Due d = new Due();
            int one = d.number(1);
            int none = d.noCase();
            int rest = d.rest(0, one);
            int more = d.oneCase(0, 0, one, none);
            refusesAsTerm(d, way == 0 ? none : way == 1 ? rest : more);
        }
    }

    /** "made: second: cases for MATCH", "match: next: cases": each sort, and no other term. */
    private static void casesInTheirPlaces() {
        Due d = new Due();
        int one = d.number(1);
        int none = d.noCase();
        int rest = d.rest(0, one);
        int more = d.oneCase(0, 0, one, none);
        int next = d.x.terms();
        for (int good : new int[] {none, rest, more}) {
            Due.due("made 11", d.x.made(11, one, good, 0), next);
            Due.due("match", d.x.match(1, 0, one, good), next + 1);
            next += 2;
        }
        int name = d.name(1);
        int empty = d.empty();
        int[] others = {one, name, d.fun(1, name), d.give(one, one), d.let(1, one, one),
            d.rec(1, one, one), empty, d.with(1, one, empty), d.of(1, one), d.without(1, one),
            d.as(1, one), d.match(one, none), d.choose(one, one, one), d.plus(one, one),
            d.same(one, one)};
        Due.due("terms", d.x.terms(), next + 14);
        for (int wrong : others) {
            refusesAsCases(d, one, wrong);
        }
    }

    private static void refusesAsCases(Due d, int one, int wrong) {
        Class<?> made = null;
        Class<?> matched = null;
        try {
            d.x.made(11, one, wrong, 0);
        } catch (IndexOutOfBoundsException e) {
            made = e.getClass();
        }
        try {
            d.x.match(1, 0, one, wrong);
        } catch (IndexOutOfBoundsException e) {
            matched = e.getClass();
        }
        Due.due("made 11 of the term " + wrong, made, INDEX);
        Due.due("match of the term " + wrong, matched, INDEX);
    }

    /** terms: "Returns how many terms there are.", from none to 120. */
    private static void termsTellsHowMany() {
        Due d = new Due();
        for (int made = 0; made < 120; made++) {
            Due.due("terms", d.x.terms(), made);
            d.x.leaf(made % 2 == 0 ? 6 : 15, 0);
        }
        Due.due("terms", d.x.terms(), 120);
        d.dueThrow("one more", STATE, () -> d.x.leaf(6, 0));
        Due.due("terms", d.x.terms(), 120);
    }
}
