/** Counts the answers that are not as due, and makes terms in few signs. */
final class Due {
    interface Call {
        void make();
    }

    final Asked x = new Asked();
    private static int wrong = 0;
    private static int held = 0;

    static void due(String call, Object got, Object want) {
        held++;
        if (!String.valueOf(got).equals(String.valueOf(want))) {
            wrong++;
            System.out.println(call + " answered " + got + ", due is " + want);
        }
    }

    static int wrong() {
        return wrong;
    }

    static void end() {
        System.out.println(held + " answers, " + wrong + " not as due");
        if (wrong != 0) {
            System.exit(1);
        }
    }

    /** The call throws just this, and there are as many terms as before. */
    void dueThrow(String call, Class<?> exception, Call made) {
        Class<?> thrown = null;
        try {
            made.make();
        } catch (RuntimeException e) {
            thrown = e.getClass();
        }
        due(call, thrown, exception);
        due("terms behind " + call, x.terms(), x.made());
    }

    int number(int number) {
        return x.leaf(0, number);
    }

    int name(int name) {
        return x.leaf(1, name);
    }

    int fun(int name, int body) {
        return x.named(2, name, body, -7);
    }

    int give(int function, int given) {
        return x.made(3, function, given, -7);
    }

    int let(int name, int meant, int body) {
        return x.named(4, name, meant, body);
    }

    int rec(int name, int meant, int body) {
        return x.named(5, name, meant, body);
    }

    int empty() {
        return x.leaf(6, -7);
    }

    int with(int label, int value, int rest) {
        return x.named(7, label, value, rest);
    }

    int of(int label, int record) {
        return x.named(8, label, record, -7);
    }

    int without(int label, int record) {
        return x.named(9, label, record, -7);
    }

    int as(int label, int value) {
        return x.named(10, label, value, -7);
    }

    int match(int whole, int cases) {
        return x.made(11, whole, cases, -7);
    }

    int choose(int asked, int one, int other) {
        return x.made(12, asked, one, other);
    }

    int plus(int one, int other) {
        return x.made(13, one, other, -7);
    }

    int same(int one, int other) {
        return x.made(14, one, other, -7);
    }

    int noCase() {
        return x.leaf(15, -7);
    }

    int rest(int name, int body) {
        return x.named(16, name, body, -7);
    }

    int oneCase(int label, int name, int body, int next) {
        return x.match(label, name, body, next);
    }

    /** A record with the labels from 0 on. */
    int record(int... values) {
        int record = empty();
        for (int label = values.length - 1; label >= 0; label--) {
            record = with(label, values[label], record);
        }
        return record;
    }

    /** Each giving doubles: a record of two of what is given, of two of these, .. */
    int doubled(int times, int last) {
        int term = last;
        for (int time = 0; time < times; time++) {
            term = give(name(1), term);
        }
        return let(1, fun(0, record(name(0), name(0))), term);
    }

    static String doubledText(int times, String last) {
        String text = last;
        for (int time = 0; time < times; time++) {
            text = "{0:" + text + ",1:" + text + "}";
        }
        return text;
    }

    String type(int term) {
        StringBuilder text = new StringBuilder();
        int size = x.size(term);
        for (int at = 0; at < size; at++) {
            text.append(x.sign(term, at));
        }
        due("the sign behind the type", (int) x.sign(term, size), 32);
        return text.toString();
    }

    /** What run() comes to, and how many steps that took. */
    String done(int term) {
        int size = x.run(term);
        if (size < 0) {
            return "too far " + x.steps();
        }
        StringBuilder text = new StringBuilder();
        for (int at = 0; at < size; at++) {
            text.append(x.result(at));
        }
        due("the sign behind the result", (int) x.result(size), 32);
        return text.append(' ').append(x.steps()).toString();
    }

    void dueType(int term, String text) {
        due("check " + term, x.check(term), 0);
        due("errorAt " + term, x.errorAt(), -1);
        due("type " + term, type(term), text);
    }

    void dueError(int term, int error, int at) {
        due("check " + term, x.check(term), error);
        due("errorAt " + term, x.errorAt(), at);
        dueThrow("size " + term, IllegalStateException.class, () -> x.size(term));
    }

    /** The machine agrees, which leaves the latest result, and how it came about, as it is. */
    void dueDone(int term, String result) {
        String done = done(term);
        due("done " + term, done, result);
        int end = done.lastIndexOf(' ');
        due("agrees " + term, x.agrees(term), true);
        due("steps behind agrees " + term, x.steps(), done.substring(end + 1));
        boolean tooFar = done.startsWith("too far");
        due("result behind agrees " + term, x.result(0), tooFar ? ' ' : done.charAt(0));
        due("result behind agrees " + term, x.result(end - 1), tooFar ? ' ' : done.charAt(end - 1));
    }
}
