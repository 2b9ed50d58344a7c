/**
 * "When a call throws, nothing has changed; of several exceptions it is the first one of the throws
 * clause." Two objects are made alike, and one of both is asked for what it must refuse: it throws
 * just the exception that is due, and both answer alike behind that, whatever they are asked.
 */
public final class RefusedCallsTest {
    private static final Class<?> ARGUMENT = IllegalArgumentException.class;
    private static final Class<?> INDEX = IndexOutOfBoundsException.class;
    private static final Class<?> STATE = IllegalStateException.class;

    private interface Use {
        void of(Due d);
    }

    /** What stands where in terms(). */
    private static final int ONE = 0;
    private static final int UNKNOWN = 1;
    private static final int NONE = 2;
    private static final int ID = 3;
    private static final int OPEN = 5;
    private static final int LET = 6;
    private static final int HEAVY = 35;

    public static void main(String[] args) {
        leafRefuses();
        namedRefuses();
        namedRefusesForSeveral();
        madeRefuses();
        madeRefusesForSeveral();
        matchRefuses();
        checkRefuses();
        sizeAndSignRefuse();
        areAlikeRefuses();
        runAndAgreesRefuse();
        resultRefuses();
        placesRefuses();
        refusedAheadOfAll();
        Due.end();
    }

    // ---- what the objects are

    /** A number, an unknown name, an END, functions, a LET, and a chain up to a weight of 30. */
    private static void terms(Due d) {
        d.number(-42);
        d.name(0);
        d.noCase();
        d.fun(0, UNKNOWN);
        d.fun(0, d.of(3, UNKNOWN));
        d.let(1, OPEN, ID);
        int last = ONE;
        while (d.x.made() <= HEAVY) {
            last = d.as(5, last);
        }
    }

    /** With a latest check() that told an error, and a latest result. */
    private static void asked(Due d) {
        terms(d);
        d.x.run(ONE);
        d.x.check(UNKNOWN);
    }

    /** With a latest check() that told none, and a latest run() that was too far. */
    private static void askedOtherwise(Due d) {
        terms(d);
        int endless = d.rec(1, d.name(1), d.name(1));
        d.x.run(endless);
        d.x.check(LET);
    }

    /** All 120 terms. */
    private static void full(Due d) {
        asked(d);
        while (d.x.made() < 120) {
            d.number(d.x.made() - 60);
        }
    }

    // ---- what they answer

    private static String text(Due d, int term) {
        try {
            StringBuilder text = new StringBuilder();
            int size = d.x.size(term);
            for (int at = 0; at < size && at < 12; at++) {
                text.append(d.x.sign(term, at));
            }
            return size + text.toString();
        } catch (IllegalStateException e) {
            return "no type";
        }
    }

    private static String next(Due d) {
        try {
            return "next " + d.x.leaf(6, 0);
        } catch (IllegalStateException e) {
            return "no next";
        }
    }

    private static String answers(Due d) {
        StringBuilder told = new StringBuilder();
        told.append(d.x.terms()).append(' ').append(d.x.errorAt()).append(' ');
        told.append(d.x.steps()).append(' ');
        for (int at = 0; at < 8; at++) {
            told.append(d.x.result(at));
        }
        for (int term : new int[] {LET, ONE, UNKNOWN, NONE, ID, HEAVY}) {
            told.append(' ').append(text(d, term));
            told.append(' ').append(d.x.check(term)).append(' ').append(d.x.errorAt());
        }
        told.append(' ').append(d.x.run(LET)).append(d.x.result(0)).append(d.x.steps());
        told.append(' ').append(d.x.places(LET, LET)).append(d.x.agrees(LET));
        return told.append(' ').append(next(d)).append(' ').append(d.x.terms()).toString();
    }

    private static Class<?> thrown(Due d, Use refused) {
        try {
            refused.of(d);
            return null;
        } catch (RuntimeException e) {
            return e.getClass();
        }
    }

    private static void due(String call, Class<?> exception, Use made, Use refused) {
        Due one = new Due();
        Due other = new Due();
        made.of(one);
        made.of(other);
        Due.due(call, thrown(one, refused), exception);
        Due.due("behind " + call, answers(one), answers(other));
    }

    private static void due(String call, Class<?> exception, Use refused) {
        due(call, exception, RefusedCallsTest::asked, refused);
        due(call, exception, RefusedCallsTest::askedOtherwise, refused);
    }

    private static void dueIfFull(String call, Class<?> exception, Use refused) {
        due(call + " with 120 terms", exception, RefusedCallsTest::full, refused);
    }

    // ---- what they refuse

    /** leaf: IllegalArgumentException, then IllegalStateException. */
    private static void leafRefuses() {
        due("leaf(0, 100)", ARGUMENT, d -> d.x.leaf(0, 100));
        due("leaf(0, -100)", ARGUMENT, d -> d.x.leaf(0, -100));
        due("leaf(1, 10)", ARGUMENT, d -> d.x.leaf(1, 10));
        due("leaf(1, -1)", ARGUMENT, d -> d.x.leaf(1, -1));
        due("leaf(2, 0)", ARGUMENT, d -> d.x.leaf(2, 0));
        dueIfFull("leaf(0, 99)", STATE, d -> d.x.leaf(0, 99));
        dueIfFull("leaf(0, 100)", ARGUMENT, d -> d.x.leaf(0, 100));
        dueIfFull("leaf(1, 9)", STATE, d -> d.x.leaf(1, 9));
        dueIfFull("leaf(1, 10)", ARGUMENT, d -> d.x.leaf(1, 10));
        dueIfFull("leaf(6, 0)", STATE, d -> d.x.leaf(6, 0));
        dueIfFull("leaf(15, 0)", STATE, d -> d.x.leaf(15, 0));
        dueIfFull("leaf(16, 0)", ARGUMENT, d -> d.x.leaf(16, 0));
    }

    /** named: each of its three exceptions alone. */
    private static void namedRefuses() {
        due("kind 3", ARGUMENT, d -> d.x.named(3, 0, ONE, ONE));
        for (int kind : new int[] {2, 4, 5, 7, 8, 9, 10, 16}) {
            due("which 10 of " + kind, ARGUMENT, d -> d.x.named(kind, 10, ONE, ONE));
            due("which -1 of " + kind, ARGUMENT, d -> d.x.named(kind, -1, ONE, ONE));
            due("first -1 of " + kind, INDEX, d -> d.x.named(kind, 0, -1, ONE));
            due("first too great of " + kind, INDEX, d -> d.x.named(kind, 0, 120, ONE));
            due("cases first of " + kind, INDEX, d -> d.x.named(kind, 0, NONE, ONE));
            due("too heavy " + kind, STATE, d -> d.x.named(kind, 0, HEAVY, ONE));
            dueIfFull("named " + kind, STATE, d -> d.x.named(kind, 0, ONE, ONE));
        }
        for (int kind : new int[] {4, 5, 7}) {
            due("second -1 of " + kind, INDEX, d -> d.x.named(kind, 0, ONE, -1));
            due("cases second of " + kind, INDEX, d -> d.x.named(kind, 0, ONE, NONE));
            due("too heavy second of " + kind, STATE, d -> d.x.named(kind, 0, ONE, HEAVY));
        }
    }

    /** named: IllegalArgumentException, IndexOutOfBoundsException, IllegalStateException. */
    private static void namedRefusesForSeveral() {
        for (int kind : new int[] {4, 5, 7}) {
            due("which, index", ARGUMENT, d -> d.x.named(kind, 10, -1, ONE));
            due("which, index", ARGUMENT, d -> d.x.named(kind, 10, ONE, NONE));
            due("which, heavy", ARGUMENT, d -> d.x.named(kind, 10, HEAVY, ONE));
            due("which, index, heavy", ARGUMENT, d -> d.x.named(kind, -1, HEAVY, -1));
            due("index, heavy", INDEX, d -> d.x.named(kind, 9, HEAVY, -1));
            due("heavy, index", INDEX, d -> d.x.named(kind, 9, -1, HEAVY));
            due("heavy, cases", INDEX, d -> d.x.named(kind, 9, HEAVY, NONE));
            dueIfFull("which", ARGUMENT, d -> d.x.named(kind, 10, ONE, ONE));
            dueIfFull("index", INDEX, d -> d.x.named(kind, 9, ONE, 120));
            dueIfFull("which, index, heavy", ARGUMENT, d -> d.x.named(kind, 10, HEAVY, 120));
            dueIfFull("index, heavy", INDEX, d -> d.x.named(kind, 9, HEAVY, 120));
            dueIfFull("heavy", STATE, d -> d.x.named(kind, 9, HEAVY, ONE));
        }
        due("kind, index", ARGUMENT, d -> d.x.named(17, 0, -1, -1));
        due("kind, heavy", ARGUMENT, d -> d.x.named(17, 0, HEAVY, HEAVY));
        dueIfFull("kind", ARGUMENT, d -> d.x.named(17, 0, ONE, ONE));
        dueIfFull("which", ARGUMENT, d -> d.x.named(2, 10, ONE, ONE));
        dueIfFull("index", INDEX, d -> d.x.named(2, 0, NONE, ONE));
    }

    /** made: each of its three exceptions alone. */
    private static void madeRefuses() {
        due("kind 2", ARGUMENT, d -> d.x.made(2, ONE, ONE, ONE));
        due("kind 15", ARGUMENT, d -> d.x.made(15, ONE, ONE, ONE));
        for (int kind : new int[] {3, 12, 13, 14}) {
            due("first of " + kind, INDEX, d -> d.x.made(kind, -1, ONE, ONE));
            due("second of " + kind, INDEX, d -> d.x.made(kind, ONE, 120, ONE));
            due("cases first of " + kind, INDEX, d -> d.x.made(kind, NONE, ONE, ONE));
            due("cases second of " + kind, INDEX, d -> d.x.made(kind, ONE, NONE, ONE));
            due("heavy first of " + kind, STATE, d -> d.x.made(kind, HEAVY, ONE, ONE));
            due("heavy second of " + kind, STATE, d -> d.x.made(kind, ONE, HEAVY, ONE));
            dueIfFull("made " + kind, STATE, d -> d.x.made(kind, ONE, ONE, ONE));
        }
        due("third of 12", INDEX, d -> d.x.made(12, ONE, ONE, -1));
        due("cases third of 12", INDEX, d -> d.x.made(12, ONE, ONE, NONE));
        due("heavy third of 12", STATE, d -> d.x.made(12, ONE, ONE, HEAVY));
        due("first of 11", INDEX, d -> d.x.made(11, -1, NONE, ONE));
        due("cases first of 11", INDEX, d -> d.x.made(11, NONE, NONE, ONE));
        due("second of 11", INDEX, d -> d.x.made(11, ONE, -1, ONE));
        due("no cases second of 11", INDEX, d -> d.x.made(11, ONE, ONE, ONE));
        due("heavy first of 11", STATE, d -> d.x.made(11, HEAVY, NONE, ONE));
        dueIfFull("made 11", STATE, d -> d.x.made(11, ONE, NONE, ONE));
    }

    /** made: IllegalArgumentException, IndexOutOfBoundsException, IllegalStateException. */
    private static void madeRefusesForSeveral() {
        due("kind, index", ARGUMENT, d -> d.x.made(10, -1, -1, -1));
        due("kind, heavy", ARGUMENT, d -> d.x.made(10, HEAVY, HEAVY, HEAVY));
        dueIfFull("kind", ARGUMENT, d -> d.x.made(10, ONE, ONE, ONE));
        dueIfFull("kind, index", ARGUMENT, d -> d.x.made(10, 120, ONE, ONE));
        for (int kind : new int[] {3, 11, 12, 13, 14}) {
            due("heavy, index", INDEX, d -> d.x.made(kind, HEAVY, -1, ONE));
            due("index, heavy", INDEX, d -> d.x.made(kind, -1, HEAVY, ONE));
            dueIfFull("index", INDEX, d -> d.x.made(kind, ONE, 120, ONE));
            dueIfFull("index, heavy", INDEX, d -> d.x.made(kind, HEAVY, 120, ONE));
        }
        due("heavy, no cases", INDEX, d -> d.x.made(11, HEAVY, ONE, ONE));
        due("heavy, third", INDEX, d -> d.x.made(12, HEAVY, ONE, NONE));
        dueIfFull("no cases", INDEX, d -> d.x.made(11, ONE, ONE, ONE));
        dueIfFull("third", INDEX, d -> d.x.made(12, ONE, ONE, 120));
    }

    /** match: IllegalArgumentException, IndexOutOfBoundsException, IllegalStateException. */
    private static void matchRefuses() {
        due("label 10", ARGUMENT, d -> d.x.match(10, 0, ONE, NONE));
        due("label -1", ARGUMENT, d -> d.x.match(-1, 0, ONE, NONE));
        due("name 10", ARGUMENT, d -> d.x.match(0, 10, ONE, NONE));
        due("name -1", ARGUMENT, d -> d.x.match(0, -1, ONE, NONE));
        due("body -1", INDEX, d -> d.x.match(0, 0, -1, NONE));
        due("body of cases", INDEX, d -> d.x.match(0, 0, NONE, NONE));
        due("next -1", INDEX, d -> d.x.match(0, 0, ONE, -1));
        due("next no cases", INDEX, d -> d.x.match(0, 0, ONE, ONE));
        due("heavy", STATE, d -> d.x.match(0, 0, HEAVY, NONE));
        due("label, index", ARGUMENT, d -> d.x.match(10, 0, -1, -1));
        due("name, index", ARGUMENT, d -> d.x.match(0, 10, ONE, ONE));
        due("label, heavy", ARGUMENT, d -> d.x.match(10, 0, HEAVY, NONE));
        due("heavy, index", INDEX, d -> d.x.match(0, 0, HEAVY, ONE));
        dueIfFull("match", STATE, d -> d.x.match(0, 0, ONE, NONE));
        dueIfFull("label", ARGUMENT, d -> d.x.match(10, 0, ONE, NONE));
        dueIfFull("name", ARGUMENT, d -> d.x.match(0, -1, ONE, NONE));
        dueIfFull("body", INDEX, d -> d.x.match(0, 0, 120, NONE));
        dueIfFull("next", INDEX, d -> d.x.match(0, 0, ONE, ONE));
        dueIfFull("label, index, heavy", ARGUMENT, d -> d.x.match(10, 0, HEAVY, ONE));
    }

    /** check: IndexOutOfBoundsException; the latest error stays. */
    private static void checkRefuses() {
        due("check(-1)", INDEX, d -> d.x.check(-1));
        due("check(terms)", INDEX, d -> d.x.check(d.x.made()));
        due("check(MAX)", INDEX, d -> d.x.check(Integer.MAX_VALUE));
        dueIfFull("check(120)", INDEX, d -> d.x.check(120));
    }

    /** size, sign: IndexOutOfBoundsException, then IllegalStateException. */
    private static void sizeAndSignRefuse() {
        due("size(-1)", INDEX, d -> d.x.size(-1));
        due("size(terms)", INDEX, d -> d.x.size(d.x.made()));
        due("size without a type", STATE, d -> d.x.size(UNKNOWN));
        due("size of cases", STATE, d -> d.x.size(NONE));
        due("sign of -1", INDEX, d -> d.x.sign(-1, 0));
        due("sign of the next term", INDEX, d -> d.x.sign(d.x.made(), 0));
        due("sign -1", INDEX, d -> d.x.sign(ID, -1));
        due("sign -1 of no term", INDEX, d -> d.x.sign(-1, -1));
        due("sign without a type", STATE, d -> d.x.sign(UNKNOWN, 0));
        due("sign of cases", STATE, d -> d.x.sign(NONE, 0));
        due("sign -1 without a type", INDEX, d -> d.x.sign(UNKNOWN, -1));
        due("sign -1 of cases", INDEX, d -> d.x.sign(NONE, -1));
    }

    /** areAlike: IndexOutOfBoundsException "of both", then IllegalStateException "if one of both". */
    private static void areAlikeRefuses() {
        due("first", INDEX, d -> d.x.areAlike(-1, ID));
        due("second", INDEX, d -> d.x.areAlike(ID, d.x.made()));
        due("both", INDEX, d -> d.x.areAlike(-1, d.x.made()));
        due("first without a type", STATE, d -> d.x.areAlike(UNKNOWN, ID));
        due("second without a type", STATE, d -> d.x.areAlike(ID, UNKNOWN));
        due("both without a type", STATE, d -> d.x.areAlike(NONE, UNKNOWN));
        due("no term, without a type", INDEX, d -> d.x.areAlike(-1, UNKNOWN));
        due("without a type, no term", INDEX, d -> d.x.areAlike(UNKNOWN, d.x.made()));
        due("of cases, no term", INDEX, d -> d.x.areAlike(NONE, -1));
    }

    /** run, agrees: IndexOutOfBoundsException, IllegalStateException; the latest result stays. */
    private static void runAndAgreesRefuse() {
        due("run(-1)", INDEX, d -> d.x.run(-1));
        due("run(terms)", INDEX, d -> d.x.run(d.x.made()));
        due("run without a type", STATE, d -> d.x.run(UNKNOWN));
        due("run of cases", STATE, d -> d.x.run(NONE));
        due("agrees(-1)", INDEX, d -> d.x.agrees(-1));
        due("agrees(terms)", INDEX, d -> d.x.agrees(d.x.made()));
        due("agrees without a type", STATE, d -> d.x.agrees(UNKNOWN));
        due("agrees of cases", STATE, d -> d.x.agrees(NONE));
    }

    /** result: IndexOutOfBoundsException. */
    private static void resultRefuses() {
        due("result(-1)", INDEX, d -> d.x.result(-1));
        due("result(MIN)", INDEX, d -> d.x.result(Integer.MIN_VALUE));
        due("result(-1) without a result", INDEX, RefusedCallsTest::terms, d -> d.x.result(-1));
    }

    /** places: IndexOutOfBounds-, then IllegalArgument-, then IllegalStateException. */
    private static void placesRefuses() {
        due("term -1", INDEX, d -> d.x.places(-1, LET));
        due("within -1", INDEX, d -> d.x.places(LET, -1));
        due("the next term", INDEX, d -> d.x.places(d.x.made(), LET));
        due("within the next term", INDEX, d -> d.x.places(LET, d.x.made()));
        due("no LET", ARGUMENT, d -> d.x.places(ID, LET));
        due("cases", ARGUMENT, d -> d.x.places(NONE, LET));
        due("without a type", STATE, d -> d.x.places(LET, UNKNOWN));
        due("within cases", STATE, d -> d.x.places(LET, NONE));
        due("no LET, no within", INDEX, d -> d.x.places(ID, -1));
        due("no term, without a type", INDEX, d -> d.x.places(-1, UNKNOWN));
        due("no LET, without a type", ARGUMENT, d -> d.x.places(ID, UNKNOWN));
        due("cases, within cases", ARGUMENT, d -> d.x.places(NONE, NONE));
    }

    /** What is refused ahead of all other calls leaves a new object as it is. */
    private static void refusedAheadOfAll() {
        Use[] calls = {d -> d.x.leaf(0, 100), d -> d.x.named(2, 0, 0, 0),
            d -> d.x.made(3, 0, 0, 0), d -> d.x.match(0, 0, 0, 0), d -> d.x.check(0),
            d -> d.x.size(0), d -> d.x.sign(0, 0), d -> d.x.areAlike(0, 0), d -> d.x.run(0),
            d -> d.x.result(-1), d -> d.x.agrees(0), d -> d.x.places(0, 0)};
        Class<?>[] due = {ARGUMENT, INDEX, INDEX, INDEX, INDEX, INDEX, INDEX, INDEX, INDEX, INDEX,
            INDEX, INDEX};
        for (int call = 0; call < calls.length; call++) {
            Due one = new Due();
            Due other = new Due();
            Due.due("call " + call, thrown(one, calls[call]), due[call]);
            Due.due("terms behind call " + call, one.x.terms(), 0);
            asked(one);
            asked(other);
            Due.due("behind call " + call, answers(one), answers(other));
        }
    }
}
