/**
 * The sentences of the chapter Texts of types, and of promises 7 to 11, that name a boundary case.
 * Each has a test of its own, with the sentence above it.
 */
public final class TextsEdgesTest {
    private static final Class<?> INDEX = IndexOutOfBoundsException.class;
    private static final Class<?> STATE = IllegalStateException.class;
    private static final int LEAST = Integer.MIN_VALUE;
    private static final int MOST = Integer.MAX_VALUE;

    public static void main(String[] args) {
        signsOfTypes();
        labelsByRisingNumbers();
        endsWithAVariable();
        lettersUpToSmallZ();
        lettersUpToLargeZ();
        boundsOfFurtherOnes();
        inTheOrderInWhichTheyStand();
        boundsBehindTheText();
        whateverIsGeneral();
        endsBehind300Signs();
        endsBehind300SignsWithinTheType();
        withoutNamesAroundIt();
        checkAnswers0To7();
        latestCheckToldAnError();
        sizeOfAText();
        blankBehindTheEnd();
        noSuchSign();
        noTypeNoText();
        sameText();
        sameTextOf300Signs();
        Due.end();
    }

    // ---- the text

    /** "N is that of numbers; (t>t) a function; {..} a record, [..] a variant of a row". */
    private static void signsOfTypes() {
        Due d = new Due();
        int x = d.name(0);
        d.dueType(d.number(1), "N");
        d.dueType(d.fun(0, d.number(1)), "(a>N)");
        d.dueType(d.fun(0, d.give(x, d.number(1))), "((N>a)>a)");
        d.dueType(d.empty(), "{}");
        d.dueType(d.with(7, d.empty(), d.empty()), "{7:{}}");
        d.dueType(d.fun(0, d.match(x, d.noCase())), "([]>a)");
        d.dueType(d.as(7, d.as(8, d.empty())), "[7:[8:{}|a]|b] a/8 b/7");
        d.dueType(d.rec(0, x, x), "a");
    }

    /** "its labels by rising numbers, each as the digit, : and its type, with , between". */
    private static void labelsByRisingNumbers() {
        Due d = new Due();
        int one = d.number(1);
        d.dueType(d.with(9, one, d.empty()), "{9:N}");
        d.dueType(d.with(9, one, d.with(0, d.empty(), d.empty())), "{0:{},9:N}");
        d.dueType(d.with(0, one, d.with(9, d.empty(), d.empty())), "{0:N,9:{}}");
        int all = d.empty();
        for (int label : new int[] {5, 0, 9, 3, 7, 1, 8, 2, 6, 4}) {
            all = d.with(label, label == 5 ? d.empty() : one, all);
        }
        d.dueType(all, "{0:N,1:N,2:N,3:N,4:N,5:{},6:N,7:N,8:N,9:N}");
    }

    /** "then, if it ends with a variable, | and that": without and with labels. */
    private static void endsWithAVariable() {
        Due d = new Due();
        int x = d.name(0);
        d.dueType(d.fun(0, d.without(4, d.with(4, d.number(1), x))), "({|a}>{|a}) a/4");
        d.dueType(d.fun(0, d.match(x, d.rest(1, d.name(1)))), "([|a]>[|a])");
        d.dueType(d.fun(0, d.of(4, x)), "({4:a|b}>a) b/4");
        d.dueType(d.as(4, d.number(1)), "[4:N|a] a/4");
        d.dueType(d.fun(0, d.match(x, d.oneCase(4, 1, d.name(1), d.noCase()))), "([4:a]>a)");
    }

    private static char letter(int number) {
        if (number < 26) {
            return (char) ('a' + number);
        }
        return number < 52 ? (char) ('A' + number - 26) : '?';
    }

    private static String functions(int from, int count, String last) {
        StringBuilder text = new StringBuilder();
        for (int number = from; number < from + count; number++) {
            text.append('(').append(letter(number)).append('>');
        }
        text.append(last);
        for (int number = 0; number < count; number++) {
            text.append(')');
        }
        return text.toString();
    }

    private static int functions(Due d, int count, int last) {
        int term = last;
        for (int number = 0; number < count; number++) {
            term = d.fun(number % 10, term);
        }
        return term;
    }

    /** "Variables are told by a to z, A to Z": the 25th, 26th, 27th and 28th. */
    private static void lettersUpToSmallZ() {
        Due.due("the 26th letter", functions(25, 1, "N"), "(z>N)");
        Due.due("the 27th letter", functions(26, 1, "N"), "(A>N)");
        for (int count = 25; count <= 28; count++) {
            Due d = new Due();
            d.dueType(functions(d, count, d.number(1)), functions(0, count, "N"));
        }
    }

    /** A record of functions of 13 variables each, with so many functions around it. */
    private static int record52(Due d, int around, int more) {
        int record = more;
        for (int label = 3; label >= 0; label--) {
            record = d.with(label, d.name(1), record);
        }
        int let = d.let(1, functions(d, 13, d.number(1)), record);
        return functions(d, around, let);
    }

    private static String text52(int around, String more) {
        StringBuilder text = new StringBuilder();
        for (int label = 0; label < 4; label++) {
            text.append(label == 0 ? '{' : ',').append(label).append(':');
            text.append(functions(around + 13 * label, 13, "N"));
        }
        return functions(0, around, text.append(more).append('}').toString());
    }

    /** "and ? for all further ones": the 52nd, 53rd and 54th. */
    private static void lettersUpToLargeZ() {
        Due.due("the 52nd letter", functions(51, 1, "N"), "(Z>N)");
        Due.due("the 53rd letter", functions(52, 1, "N"), "(?>N)");
        for (int around = 0; around <= 2; around++) {
            Due d = new Due();
            String text = text52(around, "");
            d.dueType(record52(d, around, d.empty()), text);
            Due.due("signs ?", text.length() - text.replace("?", "").length(), around);
        }
    }

    /** "a blank, the letter (or ?), =, if it must be comparable, and /, if it must lack labels". */
    private static void boundsOfFurtherOnes() {
        Due d = new Due();
        int open = d.fun(0, d.of(3, d.name(0)));
        d.dueType(record52(d, 0, d.with(4, open, d.empty())),
                text52(0, ",4:({3:?|?}>?)") + " ?/3");
        Due e = new Due();
        int same = e.fun(0, e.same(e.name(0), e.name(0)));
        e.dueType(record52(e, 0, e.with(4, same, e.empty())), text52(0, ",4:(?>N)") + " ?=");
        Due f = new Due();
        int both = f.with(4, f.as(0, f.empty()), f.with(5, f.as(9, f.empty()), f.empty()));
        f.dueType(record52(f, 0, both), text52(0, ",4:[0:{}|?],5:[9:{}|?]") + " ?/0 ?/9");
    }

    /** "in the order in which they stand in the text first". */
    private static void inTheOrderInWhichTheyStand() {
        Due d = new Due();
        int x = d.name(0);
        int y = d.name(1);
        d.dueType(d.fun(0, d.fun(1, d.with(0, y, d.with(1, x, d.empty())))),
                "(a>(b>{0:b,1:a}))");
        // labels stand by rising numbers, the variable of the row behind them
        d.dueType(d.fun(0, d.with(1, d.of(9, x), d.with(0, d.of(8, x), d.empty()))),
                "({8:a,9:b|c}>{0:a,1:b}) c/89");
        d.dueType(d.fun(0, d.fun(1, d.give(y, x))), "(a>((a>b)>b))");
        d.dueType(d.fun(0, d.fun(1, d.give(x, y))), "((a>b)>(a>b))");
    }

    /** "Behind that, for each of these variables, in that order, that must lack labels, or be ..". */
    private static void boundsBehindTheText() {
        Due d = new Due();
        int x = d.name(0);
        int y = d.name(1);
        d.dueType(d.fun(0, x), "(a>a)");
        d.dueType(d.fun(0, d.same(x, x)), "(a>N) a=");
        d.dueType(d.fun(0, d.without(0, x)), "({0:a|b}>{|b}) b/0");
        d.dueType(d.fun(0, d.without(9, d.without(0, x))), "({0:a,9:b|c}>{|c}) c/09");
        d.dueType(d.fun(0, d.same(d.without(0, x), d.without(0, x))), "({0:a|b}>N) b=/0");
        int all = x;
        for (int label = 0; label < 10; label++) {
            all = d.without(label, all);
        }
        d.dueType(d.fun(0, all), "({0:a,1:b,2:c,3:d,4:e,5:f,6:g,7:h,8:i,9:j|k}>{|k})"
                + " k/0123456789");
        // bounds in the order of the letters; a variable that stands nowhere has none
        Due e = new Due();
        int z = e.name(0);
        int one = e.number(1);
        int later = e.fun(1, e.let(2, e.same(e.name(1), e.name(1)), e.with(5, one, z)));
        e.dueType(e.fun(0, later), "({|a}>(b>{5:N|a})) a/5 b=");
        e.dueType(e.let(1, e.as(3, one), one), "N");
        e.dueType(e.of(1, e.with(1, one, e.with(0, e.as(3, one), e.empty()))), "N");
        d.dueType(d.fun(0, d.fun(1, d.plus(d.same(y, y), d.same(x, x)))), "(a>(b>N)) a= b=");
    }

    /** "The text of a term's type is that of the type alone, whatever is general." */
    private static void whateverIsGeneral() {
        Due d = new Due();
        int x = d.name(0);
        int id = d.fun(0, x);
        d.dueType(id, "(a>a)");
        d.dueType(d.let(0, id, x), "(a>a)");
        d.dueType(d.rec(1, id, d.name(1)), "(a>a)");
        d.dueType(d.give(d.fun(0, x), id), "(a>a)");
        int open = d.fun(0, d.of(3, x));
        d.dueType(d.let(0, open, x), "({3:a|b}>a) b/3");
        d.dueType(d.give(d.fun(0, x), open), "({3:a|b}>a) b/3");
    }

    /** "It ends behind 300 signs.": texts of 299, 300 and 301 signs, cut in what stands behind. */
    private static void endsBehind300Signs() {
        String five = Due.doubledText(5, "{}");
        Due.due("signs of the middle", five.length(), 281);
        Due d = new Due();
        String text299 = "(a>(b>[1:" + five + "|c])) c/1";
        Due.due("signs", text299.length(), 299);
        d.dueType(d.fun(3, d.fun(3, d.as(1, d.doubled(5, d.empty())))), text299);
        Due e = new Due();
        String text300 = "(a>[1:" + five.substring(0, 280) + ",5:{}}|b]) b/1";
        Due.due("signs", text300.length(), 300);
        int record = e.with(5, e.empty(), e.doubled(5, e.empty()));
        int term = e.fun(3, e.as(1, record));
        e.dueType(term, text300);
        Due.due("size", e.x.size(term), 300);
        Due.due("the 300th sign", e.x.sign(term, 299), '1');
        Due f = new Due();
        String text301 = "[1:[2:" + five + "|a]|b] a/2 b/1";
        Due.due("signs", text301.length(), 301);
        int more = f.as(1, f.as(2, f.doubled(5, f.empty())));
        f.dueType(more, text301.substring(0, 300));
        Due.due("size", f.x.size(more), 300);
        Due.due("the 300th sign", f.x.sign(more, 299), '/');
        Due.due("the 301st sign", f.x.sign(more, 300), ' ');
    }

    /** "It ends behind 300 signs.": texts of 299, 300 and 301 signs, cut in the type itself. */
    private static void endsBehind300SignsWithinTheType() {
        String five = Due.doubledText(5, "{}");
        for (int around = 0; around <= 2; around++) {
            Due d = new Due();
            int fields = 4 - around;
            int record = d.doubled(5, d.empty());
            StringBuilder text = new StringBuilder(five);
            for (int label = 3; label < 3 + fields; label++) {
                record = d.with(label, d.empty(), record);
                text.insert(text.length() - 1, "," + label + ":{}");
            }
            String whole = functions(0, around, text.toString());
            Due.due("signs", whole.length(), 301 - around);
            String told = whole.substring(0, Math.min(300, whole.length()));
            d.dueType(functions(d, around, record), told);
        }
        Due e = new Due();
        int deep = functions(e, 4, e.doubled(6, e.as(1, e.empty())));
        String sixth = Due.doubledText(6, "[1:{}|e]");
        e.dueType(deep, functions(0, 4, sixth).substring(0, 300));
    }

    // ---- check, errorAt, size, sign, areAlike

    /** check: "Finds the type of a term, without names around it." */
    private static void withoutNamesAroundIt() {
        Due d = new Due();
        int x = d.name(0);
        int fun = d.fun(0, x);
        int let = d.let(0, fun, x);
        d.dueError(x, 1, x);
        d.dueType(fun, "(a>a)");
        d.dueType(let, "(a>a)");
        d.dueError(x, 1, x);
        int part = d.plus(x, d.number(1));
        d.dueType(d.fun(0, part), "(N>N)");
        d.dueError(part, 1, x);
    }

    /** check: "Returns 0; otherwise the error, 1 to 6; 7 if the term is one of cases." */
    private static void checkAnswers0To7() {
        Due d = new Due();
        int one = d.number(1);
        int x = d.name(0);
        int none = d.noCase();
        Due.due("0", d.x.check(one), 0);
        Due.due("1", d.x.check(x), 1);
        Due.due("2", d.x.check(d.give(one, one)), 2);
        Due.due("3", d.x.check(d.fun(0, d.give(x, x))), 3);
        Due.due("4", d.x.check(d.with(1, one, d.with(1, one, d.empty()))), 4);
        Due.due("5", d.x.check(d.same(d.fun(0, x), d.fun(0, x))), 5);
        Due.due("6", d.x.check(d.of(1, d.empty())), 6);
        Due.due("7 of END", d.x.check(none), 7);
        Due.due("7 of REST", d.x.check(d.rest(0, x)), 7);
        Due.due("7 of a CASE", d.x.check(d.oneCase(1, 0, x, none)), 7);
        // 7 even where the body has an error, or the label stands twice
        Due.due("7 of REST", d.x.check(d.rest(1, x)), 7);
        int last = d.oneCase(1, 1, x, none);
        Due.due("7 of a CASE", d.x.check(d.oneCase(1, 1, x, last)), 7);
        Due.due("0 of a MATCH", d.x.check(d.match(d.as(1, one), d.rest(0, x))), 0);
    }

    /** errorAt: "-1 if it told none, or 7, or there was none": "the latest check()" alone counts. */
    private static void latestCheckToldAnError() {
        Due d = new Due();
        Due.due("there was none", d.x.errorAt(), -1);
        int one = d.number(1);
        int none = d.noCase();
        int zero = d.name(0);
        int bad = d.give(one, one);
        Due.due("there was none", d.x.errorAt(), -1);
        d.x.check(zero);
        Due.due("an error", d.x.errorAt(), zero);
        Due.due("an error, asked again", d.x.errorAt(), zero);
        d.x.check(one);
        Due.due("it told none", d.x.errorAt(), -1);
        d.x.check(bad);
        Due.due("an error", d.x.errorAt(), bad);
        d.x.check(none);
        Due.due("7", d.x.errorAt(), -1);
        d.x.check(d.fun(1, zero));
        Due.due("an error of a part", d.x.errorAt(), zero);
        d.dueThrow("check", INDEX, () -> d.x.check(-1));
        d.dueThrow("size", STATE, () -> d.x.size(bad));
        d.dueThrow("sign", STATE, () -> d.x.sign(bad, 0));
        d.dueThrow("areAlike", STATE, () -> d.x.areAlike(bad, bad));
        d.dueThrow("run", STATE, () -> d.x.run(bad));
        d.dueThrow("agrees", STATE, () -> d.x.agrees(bad));
        d.x.size(one);
        d.x.run(one);
        Due.due("behind other calls", d.x.errorAt(), zero);
        Due first = new Due();
        int number = first.name(3);
        first.x.check(number);
        Due.due("an error at the term 0", first.x.errorAt(), 0);
    }

    /** size: "Returns how many signs the text of a type has.": from 1 to 300. */
    private static void sizeOfAText() {
        Due d = new Due();
        int x = d.name(0);
        Due.due("size of N", d.x.size(d.number(1)), 1);
        Due.due("size of a", d.x.size(d.rec(0, x, x)), 1);
        Due.due("size of {}", d.x.size(d.empty()), 2);
        Due.due("size of (a>N) a=", d.x.size(d.fun(0, d.same(x, x))), 8);
        Due.due("the greatest size", d.x.size(d.doubled(11, d.empty())), 300);
    }

    /** sign: "Returns the sign; a blank behind the end." */
    private static void blankBehindTheEnd() {
        Due d = new Due();
        int one = d.number(1);
        int same = d.fun(0, d.same(d.name(0), d.name(0)));
        Due.due("sign 0", d.x.sign(one, 0), 'N');
        for (int at : new int[] {1, 2, 299, 300, 301, MOST}) {
            Due.due("sign " + at, d.x.sign(one, at), ' ');
        }
        Due.due("the last sign", d.x.sign(same, 7), '=');
        Due.due("the sign behind", d.x.sign(same, 8), ' ');
        Due.due("a blank within", d.x.sign(same, 5), ' ');
        int large = d.doubled(11, d.number(1));
        Due.due("sign 299", d.x.sign(large, 299) != ' ', true);
        Due.due("sign 300", d.x.sign(large, 300), ' ');
        Due.due("sign 0 of another term", d.x.sign(same, 0), '(');
    }

    /** sign: "IndexOutOfBoundsException as told, or if at is below 0". */
    private static void noSuchSign() {
        Due d = new Due();
        int one = d.number(1);
        for (int at : new int[] {-1, -2, LEAST}) {
            d.dueThrow("sign " + at, INDEX, () -> d.x.sign(one, at));
        }
        Due.due("sign 0", d.x.sign(one, 0), 'N');
        for (int term : new int[] {-1, 1, 120, LEAST, MOST}) {
            d.dueThrow("sign of " + term, INDEX, () -> d.x.sign(term, 0));
            d.dueThrow("size of " + term, INDEX, () -> d.x.size(term));
            d.dueThrow("check of " + term, INDEX, () -> d.x.check(term));
            d.dueThrow("areAlike of " + term, INDEX, () -> d.x.areAlike(term, one));
            d.dueThrow("areAlike of " + term, INDEX, () -> d.x.areAlike(one, term));
        }
    }

    /** size, sign, areAlike: "IllegalStateException if the term has no type": errors and cases. */
    private static void noTypeNoText() {
        Due d = new Due();
        int one = d.number(1);
        int none = d.noCase();
        int[] untyped = {d.name(0), d.give(one, one), none, d.rest(0, one),
            d.oneCase(0, 0, one, none)};
        for (int term : untyped) {
            d.dueThrow("size", STATE, () -> d.x.size(term));
            d.dueThrow("sign", STATE, () -> d.x.sign(term, 0));
            d.dueThrow("sign", STATE, () -> d.x.sign(term, MOST));
            d.dueThrow("areAlike", STATE, () -> d.x.areAlike(term, one));
            d.dueThrow("areAlike", STATE, () -> d.x.areAlike(one, term));
            d.dueThrow("areAlike", STATE, () -> d.x.areAlike(term, term));
        }
        Due.due("size", d.x.size(one), 1);
    }

    /** areAlike: "Tells whether the types of two terms have the same text." */
    private static void sameText() {
        Due d = new Due();
        int x = d.name(0);
        int one = d.number(1);
        int id = d.fun(0, x);
        int[] unlike = {one, d.rec(0, x, x), d.empty(), id, d.fun(0, one), d.fun(0, d.same(x, x)),
            d.fun(0, d.of(0, x)), d.fun(0, d.of(1, x)), d.as(0, one), d.as(1, one),
            d.with(0, one, d.empty()), d.fun(0, d.without(3, d.with(3, one, x))),
            d.fun(0, d.without(4, d.with(4, one, x)))};
        for (int first : unlike) {
            for (int second : unlike) {
                Due.due("areAlike " + first + " " + second, d.x.areAlike(first, second),
                        first == second);
            }
        }
        Due.due("areAlike", d.x.areAlike(one, d.number(-99)), true);
        Due.due("areAlike", d.x.areAlike(id, d.fun(7, d.name(7))), true);
        Due.due("areAlike", d.x.areAlike(d.fun(0, d.of(0, x)), unlike[6]), true);
    }

    /** areAlike: of texts that end behind 300 signs: unlike in the 300th, or behind it. */
    private static void sameTextOf300Signs() {
        for (int around = 3; around <= 5; around++) {
            Due d = new Due();
            int large = d.doubled(5, d.empty());
            int first = d.record(large, functions(d, around, d.number(1)));
            int second = d.record(large, functions(d, around, d.empty()));
            Due.due("size", d.x.size(first), 300);
            Due.due("size", d.x.size(second), 300);
            int at = 287 + 3 * around;
            Due.due("the first sign that is unlike", d.x.sign(first, at), at < 300 ? 'N' : ' ');
            Due.due("the first sign that is unlike", d.x.sign(second, at), at < 300 ? '{' : ' ');
            Due.due("areAlike, unlike at " + at, d.x.areAlike(first, second), at >= 300);
            Due.due("areAlike, unlike at " + at, d.x.areAlike(second, first), at >= 300);
        }
    }
}
