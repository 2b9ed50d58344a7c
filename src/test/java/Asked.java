/**
 * An object with its calls counted, those that throw too: "An object is used for at most 512 calls
 * after it has been made; what later calls answer is free", so no test may go beyond.
 */
final class Asked {
    static final int MOST_CALLS = 512;

    private final RowenTongue tongue = new RowenTongue();
    private int calls = 0;
    private int made = 0;

    private RowenTongue next() {
        calls++;
        if (calls == MOST_CALLS + 1) {
            Due.due("calls of one object", calls, "at most " + MOST_CALLS);
        }
        return tongue;
    }

    int calls() {
        return calls;
    }

    /** How many terms have been made, counted without a call. */
    int made() {
        return made;
    }

    private int counted(int term) {
        made++;
        return term;
    }

    int leaf(int kind, int which) {
        return counted(next().leaf(kind, which));
    }

    int named(int kind, int which, int first, int second) {
        return counted(next().named(kind, which, first, second));
    }

    int made(int kind, int first, int second, int third) {
        return counted(next().made(kind, first, second, third));
    }

    int match(int label, int name, int body, int next) {
        return counted(next().match(label, name, body, next));
    }

    int terms() {
        return next().terms();
    }

    int check(int term) {
        return next().check(term);
    }

    int errorAt() {
        return next().errorAt();
    }

    int size(int term) {
        return next().size(term);
    }

    char sign(int term, int at) {
        return next().sign(term, at);
    }

    boolean areAlike(int term, int other) {
        return next().areAlike(term, other);
    }

    int run(int term) {
        return next().run(term);
    }

    int steps() {
        return next().steps();
    }

    char result(int at) {
        return next().result(at);
    }

    boolean agrees(int term) {
        return next().agrees(term);
    }

    int places(int term, int within) {
        return next().places(term, within);
    }
}
