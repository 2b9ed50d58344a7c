import java.util.Arrays;

/**
 * A language of records and variants whose rows can be open: its terms, the types that are found
 * for them, a plain evaluator that goes by labels, and a machine to which places are handed in.
 */
public final class RowenTongue {
    private static final int NUMBER = 0;
    private static final int NAME = 1;
    private static final int FUN = 2;
    private static final int GIVE = 3;
    private static final int LET = 4;
    private static final int REC = 5;
    private static final int EMPTY = 6;
    private static final int WITH = 7;
    private static final int OF = 8;
    private static final int WITHOUT = 9;
    private static final int AS = 10;
    private static final int MATCH = 11;
    private static final int IF = 12;
    private static final int PLUS = 13;
    private static final int SAME = 14;
    private static final int END = 15;
    private static final int REST = 16;
    private static final int CASE = 17;

    private static final int UNKNOWN_NAME = 1;
    private static final int UNLIKE = 2;
    private static final int ENDLESS = 3;
    private static final int LABEL_LACKED = 4;
    private static final int NOT_COMPARABLE = 5;
    private static final int LABEL_MISSING = 6;
    private static final int CASES_ALONE = 7;

    private static final int MOST_NUMBER = 99;
    private static final int MOST_DIGIT = 9;
    private static final int LABELS = 10;
    private static final int PARTS = 3;
    private static final int MOST_TERMS = 120;
    private static final int MOST_WEIGHT = 30;
    private static final int MOST_SIGNS = 300;
    private static final int MOST_STEPS = 1000;
    private static final int MOST_MACHINE_STEPS = 2500;
    private static final int MOST_CELLS = 1 << 20;
    private static final int MANY = 1000000;
    private static final int NONE = -1;

    private final Terms store = new Terms();
    private final Tree tree = new Tree(store);
    private final Types types = new Types();
    private final Finder finder = new Finder(tree, types);
    private final Teller teller = new Teller(types);
    private final Plain plain = new Plain(tree);
    private final Machine machine = new Machine(tree, types, finder);

    private final Text typeText = new Text();
    private final Text otherText = new Text();
    private final Text latestResult = new Text();
    private final Text plainResult = new Text();
    private final Text machineResult = new Text();

    private int toldTerm = NONE;
    private int latestErrorAt = NONE;
    private int latestSteps = 0;

    public RowenTongue() {
    }

    // ---- terms

    public int leaf(int kind, int which) throws IllegalArgumentException, IllegalStateException {
        if (!isLeaf(kind, which)) {
            throw new IllegalArgumentException("no such leaf");
        }
        requireRoom(1);
        boolean counts = kind == NUMBER || kind == NAME;
        return store.add(kind, counts ? which : 0, 0, NONE, NONE, NONE);
    }

    public int named(int kind, int which, int first, int second)
            throws IllegalArgumentException, IndexOutOfBoundsException, IllegalStateException {
        if (!isNamedKind(kind) || !isDigit(which)) {
            throw new IllegalArgumentException("no such kind, name or label");
        }
        requirePart(first);
        int last = NONE;
        if (kind == LET || kind == REC || kind == WITH) {
            requirePart(second);
            last = second;
        }
        requireRoom(1 + store.weight(first) + store.weight(last));
        return store.add(kind, which, 0, first, last, NONE);
    }

    public int made(int kind, int first, int second, int third)
            throws IllegalArgumentException, IndexOutOfBoundsException, IllegalStateException {
        if (kind != GIVE && kind != MATCH && kind != IF && kind != PLUS && kind != SAME) {
            throw new IllegalArgumentException("no such kind");
        }
        requirePart(first);
        if (kind == MATCH) {
            requireCases(second);
        } else {
            requirePart(second);
        }
        int last = NONE;
        if (kind == IF) {
            requirePart(third);
            last = third;
        }
        requireRoom(1 + store.weight(first) + store.weight(second) + store.weight(last));
        return store.add(kind, 0, 0, first, second, last);
    }

    public int match(int label, int name, int body, int next)
            throws IllegalArgumentException, IndexOutOfBoundsException, IllegalStateException {
        if (!isDigit(label) || !isDigit(name)) {
            throw new IllegalArgumentException("no such label or name");
        }
        requirePart(body);
        requireCases(next);
        requireRoom(1 + store.weight(body) + store.weight(next));
        return store.add(CASE, label, name, body, next, NONE);
    }

    public int terms() {
        return store.count();
    }

    // ---- types

    public int check(int term) throws IndexOutOfBoundsException {
        requireKnown(term);
        int error = finder.look(term);
        latestErrorAt = finder.faultAt();
        return error;
    }

    public int errorAt() {
        return latestErrorAt;
    }

    public int size(int term) throws IndexOutOfBoundsException, IllegalStateException {
        requireKnown(term);
        requireType(term);
        tellType(term);
        return typeText.length();
    }

    public char sign(int term, int at) throws IndexOutOfBoundsException, IllegalStateException {
        requireKnown(term);
        if (at < 0) {
            throw new IndexOutOfBoundsException("no such sign");
        }
        requireType(term);
        tellType(term);
        return typeText.at(at);
    }

    public boolean areAlike(int term, int other)
            throws IndexOutOfBoundsException, IllegalStateException {
        requireKnown(term);
        requireKnown(other);
        requireType(other);
        teller.tell(finder.type(), otherText);
        requireType(term);
        tellType(term);
        return typeText.isLike(otherText);
    }

    // ---- doing

    public int run(int term) throws IndexOutOfBoundsException, IllegalStateException {
        requireKnown(term);
        requireType(term);
        boolean ended = plain.doWhole();
        latestSteps = plain.taken();
        latestResult.clear();
        if (!ended) {
            return NONE;
        }
        plain.tell(latestResult);
        return latestResult.length();
    }

    public int steps() {
        return latestSteps;
    }

    public char result(int at) throws IndexOutOfBoundsException {
        if (at < 0) {
            throw new IndexOutOfBoundsException("no such sign");
        }
        return latestResult.at(at);
    }

    public boolean agrees(int term) throws IndexOutOfBoundsException, IllegalStateException {
        requireKnown(term);
        requireType(term);
        if (!plain.doWhole()) {
            return true;
        }
        machine.plan();
        if (!machine.doWhole()) {
            return machine.wasTooFar();
        }
        plain.tell(plainResult);
        machine.tell(finder.type(), machineResult);
        return plainResult.isLike(machineResult);
    }

    public int places(int term, int within)
            throws IndexOutOfBoundsException, IllegalArgumentException, IllegalStateException {
        requireKnown(term);
        requireKnown(within);
        int kind = store.kind(term);
        if (kind != LET && kind != REC) {
            throw new IllegalArgumentException("neither a LET nor a REC");
        }
        requireType(within);
        int most = NONE;
        for (int spot = 0; spot < tree.count(); spot++) {
            if (tree.term(spot) == term) {
                most = Math.max(most, finder.fact(spot, Finder.HANDED));
            }
        }
        return most;
    }

    // ---- what calls ask for

    private static boolean isDigit(int which) {
        return which >= 0 && which <= MOST_DIGIT;
    }

    private static boolean isLeaf(int kind, int which) {
        switch (kind) {
            case NUMBER:
                return which >= -MOST_NUMBER && which <= MOST_NUMBER;
            case NAME:
                return isDigit(which);
            case EMPTY:
            case END:
                return true;
            default:
                return false;
        }
    }

    private static boolean isNamedKind(int kind) {
        switch (kind) {
            case FUN:
            case LET:
            case REC:
            case WITH:
            case OF:
            case WITHOUT:
            case AS:
            case REST:
                return true;
            default:
                return false;
        }
    }

    private void requireKnown(int term) throws IndexOutOfBoundsException {
        if (!store.has(term)) {
            throw new IndexOutOfBoundsException("no such term");
        }
    }

    private void requirePart(int term) throws IndexOutOfBoundsException {
        if (!store.has(term) || store.isCases(term)) {
            throw new IndexOutOfBoundsException("no term that can stand here");
        }
    }

    private void requireCases(int term) throws IndexOutOfBoundsException {
        if (!store.has(term) || !store.isCases(term)) {
            throw new IndexOutOfBoundsException("no cases that can stand here");
        }
    }

    private void requireRoom(int weight) throws IllegalStateException {
        if (store.count() >= MOST_TERMS || weight > MOST_WEIGHT) {
            throw new IllegalStateException("too many terms, or too heavy");
        }
    }

    private void requireType(int term) throws IllegalStateException {
        if (finder.look(term) != 0) {
            throw new IllegalStateException("the term has no type");
        }
    }

    /** Signs are asked for one by one: the text is told once for all of them. */
    private void tellType(int term) {
        if (toldTerm != term) {
            teller.tell(finder.type(), typeText);
            toldTerm = term;
        }
    }

    /** A row of numbers that grows as it is filled; a place that it does not have holds 0. */
    private static final class Cells {
        private int[] cell = new int[32];
        private int used = 0;

        int count() {
            return used;
        }

        int add(int value) {
            if (used >= MOST_CELLS) {
                return NONE;
            }
            if (used >= cell.length) {
                cell = Arrays.copyOf(cell, cell.length * 2);
            }
            cell[used] = value;
            used++;
            return used - 1;
        }

        int at(int place) {
            return place >= 0 && place < used ? cell[place] : 0;
        }

        void put(int place, int value) {
            if (place >= 0 && place < used) {
                cell[place] = value;
            }
        }

        int take() {
            if (used == 0) {
                return 0;
            }
            used--;
            return cell[used];
        }

        void clear() {
            used = 0;
        }
    }

    /** A text that takes no sign more behind its 300th. */
    private static final class Text {
        private final char[] signs = new char[MOST_SIGNS];
        private int length = 0;

        int length() {
            return length;
        }

        boolean isFull() {
            return length >= signs.length;
        }

        char at(int at) {
            return at >= 0 && at < length ? signs[at] : ' ';
        }

        void clear() {
            length = 0;
        }

        void add(int sign) {
            if (length < signs.length) {
                signs[length] = (char) sign;
                length++;
            }
        }

        /** A long, since the least int has no positive one. */
        void addNumber(int number) {
            long left = number;
            if (left < 0) {
                add('-');
                left = -left;
            }
            long unit = 1;
            for (int digit = 1; digit < 10 && left >= unit * 10; digit++) {
                unit *= 10;
            }
            for (; unit > 0; unit /= 10) {
                add((int) ('0' + left / unit % 10));
            }
        }

        boolean isLike(Text other) {
            if (length != other.length) {
                return false;
            }
            for (int at = 0; at < length; at++) {
                if (at(at) != other.at(at)) {
                    return false;
                }
            }
            return true;
        }
    }

    /** The terms in the order in which they were made; parts that a term does not have are NONE. */
    private static final class Terms {
        private static final int KIND = 0;
        private static final int WHICH = 1;
        private static final int CASE_NAME = 2;
        private static final int FIRST = 3;
        private static final int WEIGHT = 6;
        private static final int WIDTH = 7;

        private final Cells cells = new Cells();
        private int count = 0;

        int count() {
            return count;
        }

        boolean has(int term) {
            return term >= 0 && term < count;
        }

        boolean isCases(int term) {
            int kind = kind(term);
            return kind == END || kind == REST || kind == CASE;
        }

        int kind(int term) {
            return cells.at(term * WIDTH + KIND);
        }

        int which(int term) {
            return cells.at(term * WIDTH + WHICH);
        }

        /** The name that a term makes known in its body: a CASE has a label beside it. */
        int name(int term) {
            return cells.at(term * WIDTH + (kind(term) == CASE ? CASE_NAME : WHICH));
        }

        int part(int term, int number) {
            return cells.at(term * WIDTH + FIRST + number);
        }

        int weight(int term) {
            return has(term) ? cells.at(term * WIDTH + WEIGHT) : 0;
        }

        int add(int kind, int which, int name, int first, int second, int third) {
            int weight = 1 + weight(first) + weight(second) + weight(third);
            cells.add(kind);
            cells.add(which);
            cells.add(name);
            cells.add(first);
            cells.add(second);
            cells.add(third);
            cells.add(weight);
            count++;
            return count - 1;
        }
    }

    /**
     * A term with all its parts laid out, each place in which a term stands being a spot of its
     * own: the same term can have unlike types at unlike spots.
     */
    private static final class Tree {
        private static final int TERM = 0;
        private static final int KIND = 1;
        private static final int WHICH = 2;
        private static final int OWN_NAME = 3;
        private static final int FIRST = 4;
        private static final int WIDTH = 7;

        private final Terms terms;
        private final Cells cells = new Cells();
        private int count = 0;

        Tree(Terms terms) {
            this.terms = terms;
        }

        void grow(int term) {
            cells.clear();
            count = 0;
            plant(term);
        }

        /** A term's weight is the number of its spots, which keeps this, and the depth, low. */
        private int plant(int term) {
            if (count >= MOST_WEIGHT) {
                return NONE;
            }
            int spot = count;
            count++;
            cells.add(term);
            cells.add(terms.kind(term));
            cells.add(terms.which(term));
            cells.add(terms.name(term));
            for (int number = 0; number < PARTS; number++) {
                cells.add(NONE);
            }
            for (int number = 0; number < PARTS; number++) {
                int part = terms.part(term, number);
                if (part != NONE) {
                    cells.put(spot * WIDTH + FIRST + number, plant(part));
                }
            }
            return spot;
        }

        int count() {
            return count;
        }

        int term(int spot) {
            return cells.at(spot * WIDTH + TERM);
        }

        int part(int spot, int number) {
            return cells.at(spot * WIDTH + FIRST + number);
        }

        int kind(int spot) {
            return cells.at(spot * WIDTH + KIND);
        }

        int which(int spot) {
            return cells.at(spot * WIDTH + WHICH);
        }

        int name(int spot) {
            return cells.at(spot * WIDTH + OWN_NAME);
        }
    }

    /** A row taken apart: its labels as bits, their types, and the variable behind, or NONE. */
    private static final class Row {
        private final int[] types = new int[LABELS];
        private int labels = 0;
        private int end = NONE;

        void clear() {
            labels = 0;
            end = NONE;
        }

        int labels() {
            return labels;
        }

        int end() {
            return end;
        }

        void endWith(int variable) {
            end = variable;
        }

        boolean has(int label) {
            return (labels >> label & 1) != 0;
        }

        int type(int label) {
            return label >= 0 && label < types.length ? types[label] : 0;
        }

        void put(int label, int type) {
            if (label >= 0 && label < types.length) {
                types[label] = type;
                labels |= 1 << label;
            }
        }
    }

    /**
     * Types and rows as nodes, each WIDTH cells of one array, told by where it begins. A variable
     * that is bound, and a type that was made the same as another one, has a link to that one.
     */
    private static final class Types {
        static final int NUMBERS = 0;
        static final int NOTHING = 1;
        static final int FUNCTION = 2;
        static final int RECORD = 3;
        static final int VARIANT = 4;
        static final int LABELLED = 5;
        static final int VARIABLE = 6;
        static final int ROW_VARIABLE = 7;

        private static final int KIND = 0;
        private static final int FIRST = 1;
        private static final int SECOND = 2;
        private static final int LABEL = 3;
        private static final int LINK = 4;
        private static final int OWNER = 5;
        private static final int MARK = 6;
        private static final int COPY = 7;
        private static final int WIDTH = 8;
        private static final int LACKS = FIRST;
        private static final int COMPARABLE = SECOND;
        private static final int BASE = LABEL;
        private static final int TO_MAKE_SAME = 0;
        private static final int TO_JOIN = 1;

        private int[] cell = new int[64 * WIDTH];
        private int used = 0;
        private int round = 0;
        private final Cells pairs = new Cells();
        private final Cells reached = new Cells();
        private final Cells toReach = new Cells();
        private final Row left = new Row();
        private final Row right = new Row();

        void clear() {
            used = 0;
            add(NUMBERS, 0, 0, 0);
            add(NOTHING, 0, 0, 0);
        }

        int numbers() {
            return 0;
        }

        int nothing() {
            return WIDTH;
        }

        /** Beyond all bounds, nodes are no longer made anew; a term of weight 30 is far below. */
        int add(int kind, int first, int second, int label) {
            if (used >= MOST_CELLS) {
                return 0;
            }
            if (used + WIDTH > cell.length) {
                cell = Arrays.copyOf(cell, cell.length * 2);
            }
            int node = used;
            used += WIDTH;
            cell[node + KIND] = kind;
            cell[node + FIRST] = first;
            cell[node + SECOND] = second;
            cell[node + LABEL] = label;
            cell[node + LINK] = NONE;
            cell[node + OWNER] = NONE;
            cell[node + MARK] = 0;
            cell[node + COPY] = 0;
            return node;
        }

        int function(int from, int to) {
            return add(FUNCTION, from, to, 0);
        }

        int record(int row) {
            return add(RECORD, row, 0, 0);
        }

        int variant(int row) {
            return add(VARIANT, row, 0, 0);
        }

        int labelled(int label, int type, int row) {
            return add(LABELLED, type, row, label);
        }

        int variable() {
            return add(VARIABLE, 0, 0, 0);
        }

        int rowVariable(int lacks) {
            return add(ROW_VARIABLE, lacks, 0, 0);
        }

        private int at(int node, int field) {
            return node >= 0 && node <= used - WIDTH ? cell[node + field] : 0;
        }

        private void put(int node, int field, int value) {
            if (node >= 0 && node <= used - WIDTH) {
                cell[node + field] = value;
            }
        }

        /** What a node is, all links followed. */
        int end(int node) {
            int last = node;
            for (int turn = 0; last >= 0 && last <= used - WIDTH && turn < MANY; turn++) {
                if (cell[last + LINK] == NONE) {
                    return last;
                }
                last = cell[last + LINK];
            }
            return 0;
        }

        int kind(int node) {
            return at(node, KIND);
        }

        int first(int node) {
            return at(node, FIRST);
        }

        int second(int node) {
            return at(node, SECOND);
        }

        boolean isVariable(int node) {
            int kind = at(node, KIND);
            return kind == VARIABLE || kind == ROW_VARIABLE;
        }

        /** A variable of types lacks nothing: its cell for that stays 0. */
        int lacks(int variable) {
            return variable == NONE ? 0 : at(variable, LACKS);
        }

        boolean isComparable(int variable) {
            return variable != NONE && at(variable, COMPARABLE) != 0;
        }

        /** The spot of the LET or REC that is general in a variable, or NONE. */
        int owner(int variable) {
            return variable == NONE ? NONE : at(variable, OWNER);
        }

        /** Where the places of a general variable begin among those handed in to its owner. */
        int base(int variable) {
            return at(variable, BASE);
        }

        void makeGeneral(int variable, int owner, int base) {
            put(variable, OWNER, owner);
            put(variable, BASE, base);
        }

        void open(Row row, int node) {
            row.clear();
            int rest = end(node);
            for (int turn = 0; kind(rest) == LABELLED && turn < MANY; turn++) {
                row.put(at(rest, LABEL), first(rest));
                rest = end(second(rest));
            }
            row.endWith(kind(rest) == ROW_VARIABLE ? rest : NONE);
        }

        // ---- marks

        void newRound() {
            round++;
            reached.clear();
        }

        int reachedCount() {
            return reached.count();
        }

        int reachedNode(int number) {
            return reached.at(number);
        }

        boolean isMarked(int node) {
            return at(node, MARK) == round;
        }

        int copy(int node) {
            return at(node, COPY);
        }

        void mark(int node, int copy) {
            put(node, MARK, round);
            put(node, COPY, copy);
        }

        private static int partsOf(int kind) {
            switch (kind) {
                case FUNCTION:
                case LABELLED:
                    return 2;
                case RECORD:
                case VARIANT:
                    return 1;
                default:
                    return 0;
            }
        }

        /** Marks all that a node is made of; each node once, as types can share their parts. */
        void reach(int node) {
            toReach.clear();
            toReach.add(node);
            for (int turn = 0; toReach.count() > 0 && turn < MANY; turn++) {
                int next = end(toReach.take());
                if (at(next, MARK) == round) {
                    continue;
                }
                put(next, MARK, round);
                reached.add(next);
                int parts = partsOf(at(next, KIND));
                for (int part = 0; part < parts; part++) {
                    toReach.add(at(next, FIRST + part));
                }
            }
        }

        // ---- making types the same

        /**
         * 0, or the error. Pairs are kept in a row: types can be deeper than calls may be. Types
         * that were made the same are joined behind that, so that shared parts are not gone through
         * again and again; ahead of that, a join could make a type a part of itself.
         */
        int same(int first, int second) {
            pairs.clear();
            toDo(first, second, TO_MAKE_SAME);
            int error = 0;
            for (int turn = 0; error == 0 && pairs.count() > 0 && turn < MANY; turn++) {
                int task = pairs.take();
                int b = end(pairs.take());
                int a = end(pairs.take());
                if (a == b) {
                    continue;
                }
                if (task == TO_JOIN) {
                    put(a, LINK, b);
                } else if (kind(a) == VARIABLE) {
                    error = bind(a, b);
                } else if (kind(b) == VARIABLE) {
                    error = bind(b, a);
                } else if (kind(a) != kind(b)) {
                    error = UNLIKE;
                } else {
                    toDo(a, b, TO_JOIN);
                    if (kind(a) == FUNCTION) {
                        toDo(second(a), second(b), TO_MAKE_SAME);
                        toDo(first(a), first(b), TO_MAKE_SAME);
                    } else {
                        error = sameRows(first(a), first(b));
                    }
                }
            }
            return error;
        }

        private void toDo(int first, int second, int task) {
            pairs.add(first);
            pairs.add(second);
            pairs.add(task);
        }

        private int bind(int variable, int type) {
            newRound();
            reach(type);
            if (isMarked(variable)) {
                return ENDLESS;
            }
            put(variable, LINK, type);
            return isComparable(variable) ? makeComparable(type) : 0;
        }

        int makeComparable(int type) {
            newRound();
            reach(type);
            for (int number = 0; number < reached.count(); number++) {
                int node = reached.at(number);
                if (kind(node) == FUNCTION) {
                    return NOT_COMPARABLE;
                }
                if (isVariable(node)) {
                    put(node, COMPARABLE, 1);
                }
            }
            return 0;
        }

        private int sameRows(int first, int second) {
            open(left, first);
            open(right, second);
            int aloneLeft = left.labels() & ~right.labels();
            int aloneRight = right.labels() & ~left.labels();
            int a = left.end();
            int b = right.end();
            int error = errorOfLabels(aloneLeft, aloneRight);
            if (error == 0 && a != b) {
                int rest = newEnd(a, b);
                error = bindEnd(b, left, aloneLeft, rest);
                if (error == 0) {
                    error = bindEnd(a, right, aloneRight, rest);
                }
                if (error == 0 && isComparable(b)) {
                    error = makeComparable(b);
                }
                if (error == 0 && isComparable(a)) {
                    error = makeComparable(a);
                }
            }
            int shared = left.labels() & right.labels();
            for (int label = LABELS - 1; label >= 0; label--) {
                if ((shared >> label & 1) != 0) {
                    toDo(left.type(label), right.type(label), TO_MAKE_SAME);
                }
            }
            return error;
        }

        private int errorOfLabels(int aloneLeft, int aloneRight) {
            boolean leftMisses = aloneRight != 0 && left.end() == NONE;
            boolean rightMisses = aloneLeft != 0 && right.end() == NONE;
            if (leftMisses || rightMisses) {
                return LABEL_MISSING;
            }
            boolean leftLacks = (lacks(left.end()) & aloneRight) != 0;
            boolean rightLacks = (lacks(right.end()) & aloneLeft) != 0;
            return leftLacks || rightLacks ? LABEL_LACKED : 0;
        }

        /**
         * What both rows are followed by: nothing, unless both are open. If one of the variables
         * is comparable, what it is bound to becomes so, and the new one with that.
         */
        private int newEnd(int a, int b) {
            if (a == NONE || b == NONE) {
                return nothing();
            }
            return rowVariable(lacks(a) | lacks(b));
        }

        /** Looks for the variable behind the other row's binding, which can have brought it in. */
        private int bindEnd(int variable, Row from, int labels, int rest) {
            if (variable == NONE) {
                return 0;
            }
            int row = rest;
            for (int label = 0; label < LABELS; label++) {
                if ((labels >> label & 1) != 0) {
                    row = labelled(label, from.type(label), row);
                }
            }
            newRound();
            reach(row);
            if (isMarked(variable)) {
                return ENDLESS;
            }
            put(variable, LINK, row);
            return 0;
        }

        // ---- new types from general ones

        /** The type with new variables for general ones; copy() then tells the new one of each. */
        int instance(int type) {
            newRound();
            int node = used;
            int whole = copied(type);
            for (int turn = 0; node < used && turn < MANY; turn++) {
                int parts = partsOf(kind(node));
                for (int part = 0; part < parts; part++) {
                    put(node, FIRST + part, copied(at(node, FIRST + part)));
                }
                node += WIDTH;
            }
            return whole;
        }

        /** A copy has the parts of the old one, until instance() comes to it. */
        private int copied(int node) {
            int old = end(node);
            boolean general = at(old, OWNER) != NONE;
            if (!general && partsOf(at(old, KIND)) == 0) {
                return old;
            }
            if (at(old, MARK) != round) {
                int label = general ? 0 : at(old, LABEL);
                put(old, COPY, add(at(old, KIND), at(old, FIRST), at(old, SECOND), label));
                put(old, MARK, round);
            }
            return at(old, COPY);
        }
    }

    /** Finds the type of a term, with what the machine is made by. */
    private static final class Finder {
        /** Of a term with a label: the row in which the place of the label is counted. */
        static final int ROW = 0;
        /** Of a CASE or REST: the type of its name. */
        static final int NAMED = 1;
        /** Of a NAME: the spot of the LET or REC that it stands for by a general type, or NONE. */
        static final int MEANT = 2;
        /** Of such a NAME: where the rows that stand for the general variables begin. */
        static final int INSTANCES = 3;
        /** Of a LET or REC: where its general variables of rows begin, and how many they are. */
        static final int GENERALS = 4;
        static final int GENERAL_COUNT = 5;
        /** Of a LET or REC: how many places are handed in. */
        static final int HANDED = 6;
        private static final int FACTS = 7;

        private static final int SCOPE_NAME = 0;
        private static final int SCOPE_TYPE = 1;
        private static final int SCOPE_MEANT = 2;
        private static final int SCOPE_NEXT = 3;

        private final Tree tree;
        private final Types types;
        private final Cells facts = new Cells();
        private final Cells scopes = new Cells();
        private final Cells generals = new Cells();
        private final Cells instances = new Cells();
        private int looked = NONE;
        private int error = 0;
        private int faultAt = NONE;
        private int type = NONE;

        Finder(Tree tree, Types types) {
            this.tree = tree;
            this.types = types;
        }

        /** NONE as well, if there was no error, or the term is one of cases. */
        int faultAt() {
            return faultAt;
        }

        int type() {
            return type;
        }

        int fact(int spot, int which) {
            return facts.at(spot * FACTS + which);
        }

        int general(int spot, int number) {
            return generals.at(fact(spot, GENERALS) + number);
        }

        int instance(int spot, int number) {
            return instances.at(fact(spot, INSTANCES) + number);
        }

        /** 0 if the term has a type, or the error; the latest term is not looked at anew. */
        int look(int term) {
            if (term == looked) {
                return error;
            }
            looked = term;
            error = 0;
            faultAt = NONE;
            tree.grow(term);
            types.clear();
            scopes.clear();
            generals.clear();
            instances.clear();
            facts.clear();
            for (int fact = 0; fact < tree.count() * FACTS; fact++) {
                facts.add(NONE);
            }
            if (isCases(tree.kind(0))) {
                error = CASES_ALONE;
                type = NONE;
            } else {
                type = find(0, NONE);
            }
            return error;
        }

        private static boolean isCases(int kind) {
            return kind == END || kind == REST || kind == CASE;
        }

        private void putFact(int spot, int which, int value) {
            facts.put(spot * FACTS + which, value);
        }

        /** Keeps the first error, and the term that asked for what cannot be. */
        private boolean fails(int found, int spot) {
            if (found == 0) {
                return false;
            }
            error = found;
            faultAt = tree.term(spot);
            return true;
        }

        private int known(int name, int nameType, int meant, int scope) {
            int place = scopes.add(name);
            scopes.add(nameType);
            scopes.add(meant);
            scopes.add(scope);
            return place;
        }

        /** The type, or NONE behind an error. No deeper than the tree, which is of 30 spots. */
        private int find(int spot, int scope) {
            switch (tree.kind(spot)) {
                case NUMBER:
                    return types.numbers();
                case NAME:
                    return findName(spot, scope);
                case FUN:
                    return findFun(spot, scope);
                case GIVE:
                    return findGive(spot, scope);
                case LET:
                case REC:
                    return findLet(spot, scope);
                case EMPTY:
                    return types.record(types.nothing());
                case WITH:
                    return findWith(spot, scope);
                case OF:
                case WITHOUT:
                    return findOf(spot, scope);
                case AS:
                    return findAs(spot, scope);
                case MATCH:
                    return findMatch(spot, scope);
                case IF:
                    return findIf(spot, scope);
                case PLUS:
                case SAME:
                    return findNumber(spot, scope);
                default:
                    return NONE;
            }
        }

        private int findName(int spot, int scope) {
            int name = tree.which(spot);
            int place = scope;
            for (int turn = 0; place != NONE && turn < MANY; turn++) {
                if (scopes.at(place + SCOPE_NAME) == name) {
                    break;
                }
                place = scopes.at(place + SCOPE_NEXT);
            }
            if (place == NONE) {
                fails(UNKNOWN_NAME, spot);
                return NONE;
            }
            int meant = scopes.at(place + SCOPE_MEANT);
            int nameType = scopes.at(place + SCOPE_TYPE);
            return meant == NONE ? nameType : newInstance(spot, meant, nameType);
        }

        private int newInstance(int spot, int meant, int nameType) {
            int fresh = types.instance(nameType);
            putFact(spot, MEANT, meant);
            putFact(spot, INSTANCES, instances.count());
            int count = fact(meant, GENERAL_COUNT);
            for (int number = 0; number < count; number++) {
                instances.add(types.copy(general(meant, number)));
            }
            return fresh;
        }

        private int findFun(int spot, int scope) {
            int from = types.variable();
            int to = find(tree.part(spot, 0), known(tree.name(spot), from, NONE, scope));
            return to == NONE ? NONE : types.function(from, to);
        }

        private int findGive(int spot, int scope) {
            int function = find(tree.part(spot, 0), scope);
            if (function == NONE) {
                return NONE;
            }
            int given = find(tree.part(spot, 1), scope);
            if (given == NONE) {
                return NONE;
            }
            int to = types.variable();
            return fails(types.same(function, types.function(given, to)), spot) ? NONE : to;
        }

        private int findLet(int spot, int scope) {
            int name = tree.name(spot);
            boolean within = tree.kind(spot) == REC;
            int own = within ? types.variable() : NONE;
            int inner = within ? known(name, own, NONE, scope) : scope;
            int meant = find(tree.part(spot, 0), inner);
            if (meant == NONE || within && fails(types.same(meant, own), spot)) {
                return NONE;
            }
            makeGeneral(spot, meant, scope);
            return find(tree.part(spot, 1), known(name, meant, spot, scope));
        }

        /** What is in the types of known names is marked first, and so not reached any more. */
        private void makeGeneral(int spot, int meant, int scope) {
            types.newRound();
            int place = scope;
            for (int turn = 0; place != NONE && turn < MANY; turn++) {
                types.reach(scopes.at(place + SCOPE_TYPE));
                place = scopes.at(place + SCOPE_NEXT);
            }
            int from = types.reachedCount();
            types.reach(meant);
            int handed = 0;
            putFact(spot, GENERALS, generals.count());
            for (int number = from; number < types.reachedCount(); number++) {
                int node = types.reachedNode(number);
                if (types.isVariable(node)) {
                    types.makeGeneral(node, spot, handed);
                    handed += Integer.bitCount(types.lacks(node));
                    if (types.kind(node) == Types.ROW_VARIABLE) {
                        generals.add(node);
                    }
                }
            }
            putFact(spot, GENERAL_COUNT, generals.count() - fact(spot, GENERALS));
            putFact(spot, HANDED, handed);
        }

        private int findWith(int spot, int scope) {
            int value = find(tree.part(spot, 0), scope);
            if (value == NONE) {
                return NONE;
            }
            int rest = find(tree.part(spot, 1), scope);
            if (rest == NONE) {
                return NONE;
            }
            int label = tree.which(spot);
            int row = types.rowVariable(1 << label);
            putFact(spot, ROW, row);
            if (fails(types.same(rest, types.record(row)), spot)) {
                return NONE;
            }
            return types.record(types.labelled(label, value, row));
        }

        private int findOf(int spot, int scope) {
            int whole = find(tree.part(spot, 0), scope);
            if (whole == NONE) {
                return NONE;
            }
            int label = tree.which(spot);
            int value = types.variable();
            int row = types.rowVariable(1 << label);
            putFact(spot, ROW, row);
            int asked = types.record(types.labelled(label, value, row));
            if (fails(types.same(whole, asked), spot)) {
                return NONE;
            }
            return tree.kind(spot) == OF ? value : types.record(row);
        }

        private int findAs(int spot, int scope) {
            int value = find(tree.part(spot, 0), scope);
            if (value == NONE) {
                return NONE;
            }
            int label = tree.which(spot);
            int row = types.rowVariable(1 << label);
            putFact(spot, ROW, row);
            return types.variant(types.labelled(label, value, row));
        }

        private int findMatch(int spot, int scope) {
            int whole = find(tree.part(spot, 0), scope);
            if (whole == NONE) {
                return NONE;
            }
            int cases = tree.part(spot, 1);
            int row = rowOfCases(cases);
            if (row == NONE || fails(types.same(whole, types.variant(row)), spot)) {
                return NONE;
            }
            return findBodies(cases, scope);
        }

        /** The ends are looked for first: a row is made from its end. */
        private int rowOfCases(int cases) {
            int labels = 0;
            int at = cases;
            for (int turn = 0; tree.kind(at) == CASE && turn < MOST_WEIGHT; turn++) {
                int bit = 1 << tree.which(at);
                if ((labels & bit) != 0) {
                    fails(LABEL_LACKED, at);
                    return NONE;
                }
                labels |= bit;
                at = tree.part(at, 1);
            }
            int row = types.nothing();
            if (tree.kind(at) == REST) {
                row = types.rowVariable(labels);
                putFact(at, NAMED, types.variant(row));
            }
            at = cases;
            for (int turn = 0; tree.kind(at) == CASE && turn < MOST_WEIGHT; turn++) {
                int named = types.variable();
                putFact(at, NAMED, named);
                row = types.labelled(tree.which(at), named, row);
                at = tree.part(at, 1);
            }
            at = cases;
            for (int turn = 0; tree.kind(at) == CASE && turn < MOST_WEIGHT; turn++) {
                putFact(at, ROW, row);
                at = tree.part(at, 1);
            }
            return row;
        }

        private int findBodies(int cases, int scope) {
            int whole = types.variable();
            int at = cases;
            for (int turn = 0; tree.kind(at) != END && turn < MOST_WEIGHT; turn++) {
                int inner = known(tree.name(at), fact(at, NAMED), NONE, scope);
                int body = find(tree.part(at, 0), inner);
                if (body == NONE || fails(types.same(body, whole), at)) {
                    return NONE;
                }
                if (tree.kind(at) == REST) {
                    break;
                }
                at = tree.part(at, 1);
            }
            return whole;
        }

        private int findIf(int spot, int scope) {
            int asked = find(tree.part(spot, 0), scope);
            if (asked == NONE || fails(types.same(asked, types.numbers()), spot)) {
                return NONE;
            }
            int one = find(tree.part(spot, 1), scope);
            if (one == NONE) {
                return NONE;
            }
            int other = find(tree.part(spot, 2), scope);
            if (other == NONE || fails(types.same(other, one), spot)) {
                return NONE;
            }
            return one;
        }

        private int findNumber(int spot, int scope) {
            int one = find(tree.part(spot, 0), scope);
            if (one == NONE) {
                return NONE;
            }
            int other = find(tree.part(spot, 1), scope);
            if (other == NONE) {
                return NONE;
            }
            boolean plus = tree.kind(spot) == PLUS;
            if (plus && fails(types.same(one, types.numbers()), spot)) {
                return NONE;
            }
            if (fails(types.same(other, plus ? types.numbers() : one), spot)) {
                return NONE;
            }
            if (!plus && fails(types.makeComparable(one), spot)) {
                return NONE;
            }
            return types.numbers();
        }
    }

    /** Writes the texts of types. */
    private static final class Teller {
        private final Types types;
        private final Row row = new Row();
        /** Nodes and signs still to be told, the next one last; signs are kept below 0. */
        private final Cells toTell = new Cells();
        private final Cells variables = new Cells();

        Teller(Types types) {
            this.types = types;
        }

        void tell(int type, Text text) {
            text.clear();
            variables.clear();
            toTell.clear();
            types.newRound();
            toTell.add(type);
            for (int turn = 0; toTell.count() > 0 && !text.isFull() && turn < MANY; turn++) {
                int next = toTell.take();
                if (next < 0) {
                    text.add(-next);
                } else {
                    tellNode(types.end(next), text);
                }
            }
            tellBounds(text);
        }

        private void tellNode(int node, Text text) {
            switch (types.kind(node)) {
                case Types.NUMBERS:
                    text.add('N');
                    break;
                case Types.FUNCTION:
                    text.add('(');
                    toTell.add(-')');
                    toTell.add(types.second(node));
                    toTell.add(-'>');
                    toTell.add(types.first(node));
                    break;
                case Types.RECORD:
                    text.add('{');
                    toTell.add(-'}');
                    tellRow(types.first(node));
                    break;
                case Types.VARIANT:
                    text.add('[');
                    toTell.add(-']');
                    tellRow(types.first(node));
                    break;
                default:
                    text.add(letter(numberOf(node)));
                    break;
            }
        }

        private void tellRow(int node) {
            types.open(row, node);
            if (row.end() != NONE) {
                toTell.add(row.end());
                toTell.add(-'|');
            }
            for (int label = LABELS - 1; label >= 0; label--) {
                if (row.has(label)) {
                    toTell.add(row.type(label));
                    toTell.add(-':');
                    toTell.add(-('0' + label));
                    if ((row.labels() & (1 << label) - 1) != 0) {
                        toTell.add(-',');
                    }
                }
            }
        }

        private int numberOf(int variable) {
            if (!types.isMarked(variable)) {
                types.mark(variable, variables.add(variable));
            }
            return types.copy(variable);
        }

        private static char letter(int number) {
            if (number < 26) {
                return (char) ('a' + number);
            }
            return number < 52 ? (char) ('A' + number - 26) : '?';
        }

        private void tellBounds(Text text) {
            for (int number = 0; number < variables.count(); number++) {
                int variable = variables.at(number);
                int lacks = types.lacks(variable);
                boolean comparable = types.isComparable(variable);
                if (lacks != 0 || comparable) {
                    text.add(' ');
                    text.add(letter(number));
                }
                if (comparable) {
                    text.add('=');
                }
                if (lacks != 0) {
                    text.add('/');
                }
                for (int label = 0; label < LABELS; label++) {
                    if ((lacks >> label & 1) != 0) {
                        text.add('0' + label);
                    }
                }
            }
        }
    }

    /**
     * Does a term that has a type. Values and names are cells of one heap, told by where they
     * begin, 0 being none; what is still to be done is kept in frames, not in calls.
     */
    private abstract static class Doer {
        static final int NUMBER_VALUE = 1;
        static final int FUNCTION_VALUE = 2;
        static final int RECORD_VALUE = 3;
        static final int VARIANT_VALUE = 4;

        /** A value: its sort, then a number; spot and names; count and slots; or mark, value. */
        static final int SORT = 0;
        static final int CONTENT = 1;
        static final int SLOTS = 2;

        /** A name: what it is called, how it stands for something, for what, and the next name. */
        static final int CALLED = 0;
        static final int MANNER = 1;
        static final int MEANING = 2;
        static final int NEXT = 3;
        static final int BY_VALUE = 0;

        final Tree tree;
        final Cells heap = new Cells();
        private final Cells frames = new Cells();
        private final Cells pairs = new Cells();
        final Cells toTell = new Cells();
        private final int most;
        private int taken = 0;
        private boolean tooFar = false;
        private boolean stuck = false;
        private int spot = 0;
        private int names = 0;
        private int value = 0;

        Doer(Tree tree, int most) {
            this.tree = tree;
            this.most = most;
        }

        abstract int emptyRecord();

        /** What a label is by which the term at a spot goes. */
        abstract int markOf(int spot, int names);

        abstract int recordWith(int record, int mark, int value);

        abstract int recordWithout(int record, int mark);

        /** The variant as a REST has it, with so many marks of cases below its own one. */
        abstract int restOf(int variant, int below);

        abstract void beginMeant(int spot, int names, int name);

        abstract void beginLet(int spot, int names);

        abstract void backInName(int held, int came);

        final int taken() {
            return taken;
        }

        /** A tree that has a type is too far or comes to a value; it never just stops. */
        final boolean wasTooFar() {
            return tooFar;
        }

        final int value() {
            return value;
        }

        /** Tells whether the whole tree came to a value, which value() then is. */
        final boolean doWhole() {
            heap.clear();
            heap.add(0);
            frames.clear();
            taken = 0;
            tooFar = false;
            stuck = false;
            goTo(0, 0);
            boolean ended = false;
            for (int turn = 0; !ended && !tooFar && !stuck && turn < MANY; turn++) {
                if (value == 0) {
                    begin();
                } else if (frames.count() > 0) {
                    goBack();
                } else {
                    ended = true;
                }
            }
            return ended;
        }

        final void goTo(int nextSpot, int nextNames) {
            spot = nextSpot;
            names = nextNames;
            value = 0;
        }

        final void comeTo(int found) {
            if (found == 0) {
                stuck = true;
            }
            value = found;
        }

        final void hold(int heldSpot, int heldNames, int held) {
            frames.add(heldSpot);
            frames.add(heldNames);
            frames.add(held);
        }

        final int cells(int first, int second, int third) {
            int place = heap.add(first);
            heap.add(second);
            heap.add(third);
            return place;
        }

        final int name(int called, int manner, int meaning, int next) {
            int place = heap.add(called);
            heap.add(manner);
            heap.add(meaning);
            heap.add(next);
            return place;
        }

        final int newNumber(int number) {
            int place = heap.add(NUMBER_VALUE);
            heap.add(number);
            return place;
        }

        final int number(int number) {
            return heap.at(number + CONTENT);
        }

        final int slots(int record) {
            return heap.at(record + CONTENT);
        }

        final int slot(int record, int mark) {
            boolean held = mark >= 0 && mark < heap.at(record + CONTENT);
            return held ? heap.at(record + SLOTS + mark) : 0;
        }

        private boolean takesStep() {
            if (taken >= most) {
                tooFar = true;
                return false;
            }
            taken++;
            return true;
        }

        private void begin() {
            if (!takesStep()) {
                return;
            }
            switch (tree.kind(spot)) {
                case NUMBER:
                    comeTo(newNumber(tree.which(spot)));
                    break;
                case NAME:
                    beginName();
                    break;
                case FUN:
                    comeTo(cells(FUNCTION_VALUE, spot, names));
                    break;
                case LET:
                case REC:
                    beginLet(spot, names);
                    break;
                case EMPTY:
                    comeTo(emptyRecord());
                    break;
                default:
                    hold(spot, names, 0);
                    goTo(tree.part(spot, 0), names);
                    break;
            }
        }

        private void beginName() {
            int called = tree.which(spot);
            int name = names;
            for (int turn = 0; name != 0 && turn < MANY; turn++) {
                if (heap.at(name + CALLED) == called) {
                    break;
                }
                name = heap.at(name + NEXT);
            }
            if (name != 0 && heap.at(name + MANNER) != BY_VALUE) {
                beginMeant(spot, names, name);
            } else {
                comeTo(name == 0 ? 0 : heap.at(name + MEANING));
            }
        }

        /** Goes on with the latest frame, for which a part has come to the value. */
        private void goBack() {
            int held = frames.take();
            int heldNames = frames.take();
            int heldSpot = frames.take();
            int came = value;
            switch (tree.kind(heldSpot)) {
                case NAME:
                    backInName(held, came);
                    break;
                case LET:
                case REC:
                    goTo(tree.part(heldSpot, 1), nameOf(heldSpot, came, heldNames));
                    break;
                case OF:
                    comeTo(slot(came, markOf(heldSpot, heldNames)));
                    break;
                case WITHOUT:
                    comeTo(recordWithout(came, markOf(heldSpot, heldNames)));
                    break;
                case AS:
                    comeTo(cells(VARIANT_VALUE, markOf(heldSpot, heldNames), came));
                    break;
                case MATCH:
                    choose(tree.part(heldSpot, 1), heldNames, came);
                    break;
                case IF:
                    goTo(tree.part(heldSpot, number(came) != 0 ? 1 : 2), heldNames);
                    break;
                default:
                    backInPair(heldSpot, heldNames, held, came);
                    break;
            }
        }

        private int nameOf(int nameSpot, int meaning, int next) {
            return name(tree.name(nameSpot), BY_VALUE, meaning, next);
        }

        private void backInPair(int pairSpot, int pairNames, int held, int came) {
            if (held == 0) {
                hold(pairSpot, pairNames, came);
                goTo(tree.part(pairSpot, 1), pairNames);
                return;
            }
            switch (tree.kind(pairSpot)) {
                case GIVE:
                    give(held, came);
                    break;
                case WITH:
                    comeTo(recordWith(came, markOf(pairSpot, pairNames), held));
                    break;
                case PLUS:
                    comeTo(newNumber(number(held) + number(came)));
                    break;
                case SAME:
                    comeTo(newNumber(areSame(held, came) ? 1 : 0));
                    break;
                default:
                    stuck = true;
                    break;
            }
        }

        private void give(int function, int given) {
            if (heap.at(function + SORT) != FUNCTION_VALUE) {
                stuck = true;
                return;
            }
            int body = heap.at(function + CONTENT);
            goTo(tree.part(body, 0), nameOf(body, given, heap.at(function + SLOTS)));
        }

        private void choose(int cases, int caseNames, int variant) {
            int mark = heap.at(variant + CONTENT);
            int below = 0;
            int at = cases;
            for (int turn = 0; tree.kind(at) == CASE && turn < MOST_WEIGHT; turn++) {
                int own = markOf(at, caseNames);
                if (own == mark) {
                    goTo(tree.part(at, 0), nameOf(at, heap.at(variant + SLOTS), caseNames));
                    return;
                }
                below += own < mark ? 1 : 0;
                at = tree.part(at, 1);
            }
            if (tree.kind(at) == REST) {
                goTo(tree.part(at, 0), nameOf(at, restOf(variant, below), caseNames));
            } else {
                stuck = true;
            }
        }

        private boolean areSame(int first, int second) {
            pairs.clear();
            pairs.add(first);
            pairs.add(second);
            boolean same = true;
            for (int turn = 0; same && pairs.count() > 0 && turn < MANY; turn++) {
                int b = pairs.take();
                int a = pairs.take();
                same = takesStep() && areAlikeSoFar(a, b);
            }
            return same;
        }

        /** What both have is put behind, to be held against one another next. */
        private boolean areAlikeSoFar(int a, int b) {
            boolean alike = heap.at(a + SORT) == heap.at(b + SORT)
                    && heap.at(a + CONTENT) == heap.at(b + CONTENT);
            if (alike && heap.at(a + SORT) == VARIANT_VALUE) {
                pairs.add(heap.at(a + SLOTS));
                pairs.add(heap.at(b + SLOTS));
            }
            if (alike && heap.at(a + SORT) == RECORD_VALUE) {
                for (int mark = slots(a) - 1; mark >= 0; mark--) {
                    if (slot(a, mark) != 0) {
                        pairs.add(slot(a, mark));
                        pairs.add(slot(b, mark));
                    }
                }
            }
            return alike;
        }
    }

    /** Does a term by its labels: a record has a slot for every label, empty ones being 0. */
    private static final class Plain extends Doer {
        private static final int ANEW = 1;

        Plain(Tree tree) {
            super(tree, MOST_STEPS);
        }

        int emptyRecord() {
            int record = heap.add(RECORD_VALUE);
            heap.add(LABELS);
            for (int label = 0; label < LABELS; label++) {
                heap.add(0);
            }
            return record;
        }

        int markOf(int spot, int names) {
            return tree.which(spot);
        }

        int recordWith(int record, int mark, int value) {
            int changed = heap.add(RECORD_VALUE);
            heap.add(LABELS);
            for (int label = 0; label < LABELS; label++) {
                heap.add(label == mark ? value : slot(record, label));
            }
            return changed;
        }

        int recordWithout(int record, int mark) {
            return recordWith(record, mark, 0);
        }

        int restOf(int variant, int below) {
            return variant;
        }

        /** The names known in e of a REC begin with its own one. */
        void beginMeant(int spot, int names, int name) {
            goTo(heap.at(name + MEANING), name);
        }

        void beginLet(int spot, int names) {
            int first = tree.part(spot, 0);
            hold(spot, names, 0);
            boolean within = tree.kind(spot) == REC;
            goTo(first, within ? name(tree.name(spot), ANEW, first, names) : names);
        }

        void backInName(int held, int came) {
            comeTo(came);
        }

        void tell(Text text) {
            text.clear();
            toTell.clear();
            toTell.add(value());
            for (int turn = 0; toTell.count() > 0 && !text.isFull() && turn < MANY; turn++) {
                int next = toTell.take();
                if (next < 0) {
                    text.add(-next);
                } else {
                    tellValue(next, text);
                }
            }
        }

        private void tellValue(int told, Text text) {
            switch (heap.at(told + SORT)) {
                case NUMBER_VALUE:
                    text.addNumber(number(told));
                    break;
                case RECORD_VALUE:
                    text.add('{');
                    toTell.add(-'}');
                    tellSlots(told);
                    break;
                case VARIANT_VALUE:
                    text.add('[');
                    toTell.add(-']');
                    tellLabel(heap.at(told + CONTENT), heap.at(told + SLOTS));
                    break;
                default:
                    text.add('F');
                    break;
            }
        }

        private void tellLabel(int label, int told) {
            toTell.add(told);
            toTell.add(-':');
            toTell.add(-('0' + label));
        }

        private void tellSlots(int record) {
            boolean some = false;
            for (int label = LABELS - 1; label >= 0; label--) {
                int told = slot(record, label);
                if (told != 0 && some) {
                    toTell.add(-',');
                }
                if (told != 0) {
                    tellLabel(label, told);
                    some = true;
                }
            }
        }
    }

    /**
     * Does a term by places. Each label that stands in the term has become a known number and,
     * for an open row, one of the places that are handed in to the LET or REC which is general in
     * it; while it works, it looks at these alone.
     */
    private static final class Machine extends Doer {
        private static final int LATER = 1;
        private static final int WITHIN = 2;
        private static final int HANDED_IN = 3;
        private static final int EXTRA = 4;
        private static final int DONE_PLACES = 0;
        private static final int DONE_VALUE = 1;
        private static final int DONE_NEXT = 2;
        private static final int PLAN_KNOWN = 0;
        private static final int PLAN_OWNER = 1;
        private static final int PLAN_NUMBER = 2;
        private static final int PLAN_WIDTH = 3;

        private final Types types;
        private final Finder finder;
        private final Row row = new Row();
        private final Cells plans = new Cells();
        private final Cells starts = new Cells();

        Machine(Tree tree, Types types, Finder finder) {
            super(tree, MOST_MACHINE_STEPS);
            this.types = types;
            this.finder = finder;
        }

        /** Makes places of all labels in the tree, by the types that were found for it. */
        void plan() {
            plans.clear();
            starts.clear();
            for (int spot = 0; spot < tree.count(); spot++) {
                starts.add(plans.count());
                int kind = tree.kind(spot);
                if (kind == NAME) {
                    planName(spot);
                } else if (finder.fact(spot, Finder.ROW) != NONE) {
                    planPlace(tree.which(spot), finder.fact(spot, Finder.ROW));
                }
            }
        }

        private void planName(int spot) {
            int meant = finder.fact(spot, Finder.MEANT);
            int count = meant == NONE ? 0 : finder.fact(meant, Finder.GENERAL_COUNT);
            for (int number = 0; number < count; number++) {
                int lacks = types.lacks(finder.general(meant, number));
                for (int label = 0; label < LABELS; label++) {
                    if ((lacks >> label & 1) != 0) {
                        planPlace(label, finder.instance(spot, number));
                    }
                }
            }
        }

        private void planPlace(int label, int node) {
            types.open(row, node);
            int less = (1 << label) - 1;
            int end = row.end();
            int before = end == NONE ? 0 : Integer.bitCount(types.lacks(end) & less);
            plans.add(Integer.bitCount(row.labels() & less));
            plans.add(types.owner(end));
            plans.add(end == NONE ? 0 : types.base(end) + before);
        }

        /** The known number, and what was handed in, if the row's variable is general somewhere. */
        private int placeAt(int plan, int names) {
            int place = plans.at(plan + PLAN_KNOWN);
            int owner = plans.at(plan + PLAN_OWNER);
            int name = owner == NONE ? 0 : names;
            for (int turn = 0; name != 0 && turn < MANY; turn++) {
                if (heap.at(name + MANNER) == HANDED_IN && heap.at(name + MEANING) == owner) {
                    return place + heap.at(heap.at(name + EXTRA) + plans.at(plan + PLAN_NUMBER));
                }
                name = heap.at(name + NEXT);
            }
            return place;
        }

        int emptyRecord() {
            int record = heap.add(RECORD_VALUE);
            heap.add(0);
            return record;
        }

        int markOf(int spot, int names) {
            return placeAt(starts.at(spot), names);
        }

        int recordWith(int record, int mark, int value) {
            int count = slots(record) + 1;
            int changed = heap.add(RECORD_VALUE);
            heap.add(count);
            for (int place = 0; place < count; place++) {
                int kept = slot(record, place < mark ? place : place - 1);
                heap.add(place == mark ? value : kept);
            }
            return changed;
        }

        int recordWithout(int record, int mark) {
            int count = slots(record) - 1;
            int changed = heap.add(RECORD_VALUE);
            heap.add(count);
            for (int place = 0; place < count; place++) {
                heap.add(slot(record, place < mark ? place : place + 1));
            }
            return changed;
        }

        int restOf(int variant, int below) {
            int mark = heap.at(variant + CONTENT) - below;
            return cells(VARIANT_VALUE, mark, heap.at(variant + SLOTS));
        }

        /** e waits for the places with which its name stands in the body. */
        void beginLet(int spot, int names) {
            int later = name(tree.name(spot), LATER, spot, names);
            heap.add(0);
            goTo(tree.part(spot, 1), later);
        }

        void beginMeant(int spot, int names, int name) {
            if (heap.at(name + MANNER) == WITHIN) {
                doOnce(spot, heap.at(name + MEANING), heap.at(name + EXTRA));
                return;
            }
            int count = finder.fact(heap.at(name + MEANING), Finder.HANDED);
            int places = heap.count();
            for (int number = 0; number < count; number++) {
                heap.add(placeAt(starts.at(spot) + number * PLAN_WIDTH, names));
            }
            doOnce(spot, name, places);
        }

        /** Comes to what e came to with the same places, or does it with them. */
        private void doOnce(int spot, int later, int places) {
            int let = heap.at(later + MEANING);
            int count = finder.fact(let, Finder.HANDED);
            int done = heap.at(later + EXTRA);
            for (int turn = 0; done != 0 && turn < MANY; turn++) {
                if (heap.at(done + DONE_VALUE) != 0
                        && arePlacesLike(heap.at(done + DONE_PLACES), places, count)) {
                    comeTo(heap.at(done + DONE_VALUE));
                    return;
                }
                done = heap.at(done + DONE_NEXT);
            }
            int toDo = cells(places, 0, heap.at(later + EXTRA));
            heap.put(later + EXTRA, toDo);
            hold(spot, 0, toDo);
            int names = name(NONE, HANDED_IN, let, heap.at(later + NEXT));
            heap.add(places);
            if (tree.kind(let) == REC) {
                names = name(tree.name(let), WITHIN, later, names);
                heap.add(places);
            }
            goTo(tree.part(let, 0), names);
        }

        private boolean arePlacesLike(int first, int second, int count) {
            for (int number = 0; number < count; number++) {
                if (heap.at(first + number) != heap.at(second + number)) {
                    return false;
                }
            }
            return true;
        }

        void backInName(int held, int came) {
            heap.put(held + DONE_VALUE, came);
            comeTo(came);
        }

        /** Types and values are told in pairs; a sign is kept below 0, with no value. */
        void tell(int type, Text text) {
            text.clear();
            toTell.clear();
            toTellBoth(type, value());
            for (int turn = 0; toTell.count() > 0 && !text.isFull() && turn < MANY; turn++) {
                int told = toTell.take();
                int next = toTell.take();
                if (next < 0) {
                    text.add(-next);
                } else {
                    tellValue(types.end(next), told, text);
                }
            }
        }

        private void toTellBoth(int type, int told) {
            toTell.add(type);
            toTell.add(told);
        }

        private void tellValue(int type, int told, Text text) {
            switch (types.kind(type)) {
                case Types.NUMBERS:
                    text.addNumber(number(told));
                    break;
                case Types.RECORD:
                    text.add('{');
                    toTellBoth(-'}', 0);
                    types.open(row, types.first(type));
                    tellSlots(told);
                    break;
                case Types.VARIANT:
                    text.add('[');
                    toTellBoth(-']', 0);
                    types.open(row, types.first(type));
                    tellVariant(told);
                    break;
                default:
                    text.add('F');
                    break;
            }
        }

        private void tellLabel(int label, int told) {
            toTellBoth(row.type(label), told);
            toTellBoth(-':', 0);
            toTellBoth(-('0' + label), 0);
        }

        private void tellSlots(int record) {
            int place = Integer.bitCount(row.labels()) - 1;
            for (int label = LABELS - 1; label >= 0; label--) {
                if (row.has(label)) {
                    tellLabel(label, slot(record, place));
                    if (place > 0) {
                        toTellBoth(-',', 0);
                    }
                    place--;
                }
            }
        }

        private void tellVariant(int variant) {
            int left = heap.at(variant + CONTENT);
            for (int label = 0; label < LABELS; label++) {
                if (row.has(label)) {
                    if (left == 0) {
                        tellLabel(label, heap.at(variant + SLOTS));
                    }
                    left--;
                }
            }
        }
    }
}
