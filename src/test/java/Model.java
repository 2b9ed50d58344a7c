import java.util.ArrayDeque;
import java.util.ArrayList;
import java.util.Deque;
import java.util.HashMap;
import java.util.HashSet;
import java.util.LinkedHashMap;
import java.util.LinkedHashSet;
import java.util.List;
import java.util.Map;
import java.util.Set;
import java.util.TreeMap;
import java.util.TreeSet;

/**
 * The document's language once more, written as plainly as can be (objects, recursion, exceptions,
 * the Java library), so that random terms can be held against the program's answers.
 */
final class Model {
    static final class Term {
        final int number;
        final int kind;
        final int which;
        final int name;
        final Term[] parts;
        final int weight;

        Term(int number, int kind, int which, int name, Term... parts) {
            this.number = number;
            this.kind = kind;
            this.which = which;
            this.name = name;
            this.parts = parts;
            int sum = 1;
            for (Term part : parts) {
                sum += part.weight;
            }
            this.weight = sum;
        }

        boolean isCases() {
            return kind >= 15;
        }
    }

    // ---- types

    private abstract static class Type {
    }

    private static final class Num extends Type {
    }

    private static final class Fun extends Type {
        final Type from;
        final Type to;

        Fun(Type from, Type to) {
            this.from = from;
            this.to = to;
        }
    }

    private static final class Rows extends Type {
        final boolean record;
        final Row row;

        Rows(boolean record, Row row) {
            this.record = record;
            this.row = row;
        }
    }

    private static final class Var extends Type {
        Type bound;
        boolean comparable;
    }

    private static final class RowVar {
        Row bound;
        boolean comparable;
        Set<Integer> lacks = new TreeSet<>();
    }

    private static final class Row {
        final TreeMap<Integer, Type> labels = new TreeMap<>();
        RowVar end;

        Row(RowVar end) {
            this.end = end;
        }
    }

    static final class Fault extends Exception {
        private static final long serialVersionUID = 1L;
        final int error;
        final int at;

        Fault(int error, int at) {
            super("error");
            this.error = error;
            this.at = at;
        }
    }

    private static final class Scheme {
        final Type type;
        final Set<Object> general;

        Scheme(Type type, Set<Object> general) {
            this.type = type;
            this.general = general;
        }
    }

    /** The greatest number of places for each LET and REC, by its number, in the term at hand. */
    final Map<Integer, Integer> handed = new HashMap<>();

    private static Type prune(Type type) {
        while (type instanceof Var && ((Var) type).bound != null) {
            type = ((Var) type).bound;
        }
        return type;
    }

    private static Row prune(Row row) {
        Row whole = new Row(null);
        Row at = row;
        while (true) {
            whole.labels.putAll(at.labels);
            if (at.end == null || at.end.bound == null) {
                whole.end = at.end;
                return whole;
            }
            at = at.end.bound;
        }
    }

    /** All variables in the order in which they stand. */
    private static void variables(Type type, Set<Object> into) {
        Type t = prune(type);
        if (t instanceof Var) {
            into.add(t);
        } else if (t instanceof Fun) {
            variables(((Fun) t).from, into);
            variables(((Fun) t).to, into);
        } else if (t instanceof Rows) {
            variables(((Rows) t).row, into);
        }
    }

    private static void variables(Row row, Set<Object> into) {
        Row r = prune(row);
        for (Type type : r.labels.values()) {
            variables(type, into);
        }
        if (r.end != null) {
            into.add(r.end);
        }
    }

    private static boolean comparable(Type type) {
        Type t = prune(type);
        if (t instanceof Fun) {
            return false;
        }
        if (t instanceof Var) {
            ((Var) t).comparable = true;
        }
        return !(t instanceof Rows) || comparable(((Rows) t).row);
    }

    private static boolean comparable(Row row) {
        Row r = prune(row);
        for (Type type : r.labels.values()) {
            if (!comparable(type)) {
                return false;
            }
        }
        if (r.end != null) {
            r.end.comparable = true;
        }
        return true;
    }

    private static void need(boolean holds, int error, int at) throws Fault {
        if (!holds) {
            throw new Fault(error, at);
        }
    }

    private static void same(Type one, Type other, int at) throws Fault {
        Type a = prune(one);
        Type b = prune(other);
        if (a == b) {
            return;
        }
        if (a instanceof Var || b instanceof Var) {
            Var v = (Var) (a instanceof Var ? a : b);
            Type t = a instanceof Var ? b : a;
            Set<Object> in = new HashSet<>();
            variables(t, in);
            need(!in.contains(v), 3, at);
            v.bound = t;
            need(!v.comparable || comparable(t), 5, at);
            return;
        }
        if (a instanceof Num && b instanceof Num) {
            return;
        }
        need(a.getClass() == b.getClass(), 2, at);
        if (a instanceof Fun) {
            same(((Fun) a).from, ((Fun) b).from, at);
            same(((Fun) a).to, ((Fun) b).to, at);
            return;
        }
        need(((Rows) a).record == ((Rows) b).record, 2, at);
        same(((Rows) a).row, ((Rows) b).row, at);
    }

    private static Row needed(Row by, Row from, RowVar end) {
        Row row = new Row(end);
        row.labels.putAll(from.labels);
        row.labels.keySet().removeAll(by.labels.keySet());
        return row;
    }

    private static boolean isIn(RowVar variable, Row row) {
        Set<Object> in = new HashSet<>();
        variables(row, in);
        return in.contains(variable);
    }

    private static boolean lacksOne(RowVar variable, Row row) {
        Set<Integer> both = new HashSet<>(row.labels.keySet());
        both.retainAll(variable.lacks);
        return !both.isEmpty();
    }

    private static void same(Row one, Row other, int at) throws Fault {
        Row a = prune(one);
        Row b = prune(other);
        RowVar end = null;
        if (a.end != null && b.end != null) {
            end = new RowVar();
            end.lacks.addAll(a.end.lacks);
            end.lacks.addAll(b.end.lacks);
            end.comparable = a.end.comparable || b.end.comparable;
        }
        Row forB = needed(b, a, end);
        Row forA = needed(a, b, end);
        need(b.end != null || forB.labels.isEmpty(), 6, at);
        need(a.end != null || forA.labels.isEmpty(), 6, at);
        need(b.end == null || !lacksOne(b.end, forB), 4, at);
        need(a.end == null || !lacksOne(a.end, forA), 4, at);
        if (a.end != b.end) {
            if (b.end != null) {
                need(!isIn(b.end, forB), 3, at);
                b.end.bound = forB;
            }
            if (a.end != null) {
                need(!isIn(a.end, forA), 3, at);
                a.end.bound = forA;
            }
            need(b.end == null || !b.end.comparable || comparable(forB), 5, at);
            need(a.end == null || !a.end.comparable || comparable(forA), 5, at);
        }
        for (int label : a.labels.keySet()) {
            if (b.labels.containsKey(label)) {
                same(a.labels.get(label), b.labels.get(label), at);
            }
        }
    }

    private static Type copy(Type type, Scheme scheme, Map<Object, Object> fresh) {
        Type t = prune(type);
        if (t instanceof Var && scheme.general.contains(t)) {
            Var v = (Var) fresh.computeIfAbsent(t, k -> new Var());
            v.comparable = ((Var) t).comparable;
            return v;
        }
        if (t instanceof Fun) {
            Type from = copy(((Fun) t).from, scheme, fresh);
            return new Fun(from, copy(((Fun) t).to, scheme, fresh));
        }
        if (!(t instanceof Rows)) {
            return t;
        }
        Row r = prune(((Rows) t).row);
        Row copied = new Row(r.end);
        for (Map.Entry<Integer, Type> entry : r.labels.entrySet()) {
            copied.labels.put(entry.getKey(), copy(entry.getValue(), scheme, fresh));
        }
        if (r.end != null && scheme.general.contains(r.end)) {
            copied.end = (RowVar) fresh.computeIfAbsent(r.end, k -> new RowVar());
            copied.end.comparable = r.end.comparable;
            copied.end.lacks = new TreeSet<>(r.end.lacks);
        }
        return new Rows(((Rows) t).record, copied);
    }

    private static Row open(int label, Type type, RowVar rest) {
        Row row = new Row(rest);
        if (type != null) {
            row.labels.put(label, type);
        }
        return row;
    }

    private static RowVar lacking(Set<Integer> labels) {
        RowVar variable = new RowVar();
        variable.lacks.addAll(labels);
        return variable;
    }

    private static Map<Integer, Scheme> with(Map<Integer, Scheme> known, int name, Scheme scheme) {
        Map<Integer, Scheme> more = new HashMap<>(known);
        more.put(name, scheme);
        return more;
    }

    private static Scheme plain(Type type) {
        return new Scheme(type, Set.of());
    }

    private Type find(Term term, Map<Integer, Scheme> known) throws Fault {
        Term[] p = term.parts;
        int at = term.number;
        switch (term.kind) {
            case 0:
                return new Num();
            case 1: {
                Scheme scheme = known.get(term.which);
                need(scheme != null, 1, at);
                return copy(scheme.type, scheme, new HashMap<>());
            }
            case 2: {
                Var from = new Var();
                return new Fun(from, find(p[0], with(known, term.which, plain(from))));
            }
            case 3: {
                Type function = find(p[0], known);
                Type given = find(p[1], known);
                Var to = new Var();
                same(function, new Fun(given, to), at);
                return to;
            }
            case 4:
            case 5:
                return findLet(term, known);
            case 6:
                return new Rows(true, new Row(null));
            case 7: {
                Type value = find(p[0], known);
                Type rest = find(p[1], known);
                RowVar row = lacking(Set.of(term.which));
                same(rest, new Rows(true, new Row(row)), at);
                return new Rows(true, open(term.which, value, row));
            }
            case 8:
            case 9: {
                Type whole = find(p[0], known);
                Var value = new Var();
                RowVar row = lacking(Set.of(term.which));
                same(whole, new Rows(true, open(term.which, value, row)), at);
                return term.kind == 8 ? value : new Rows(true, new Row(row));
            }
            case 10: {
                Type value = find(p[0], known);
                return new Rows(false, open(term.which, value, lacking(Set.of(term.which))));
            }
            case 11:
                return findMatch(term, known);
            case 12: {
                same(find(p[0], known), new Num(), at);
                Type one = find(p[1], known);
                same(find(p[2], known), one, at);
                return one;
            }
            case 13: {
                Type one = find(p[0], known);
                Type other = find(p[1], known);
                same(one, new Num(), at);
                same(other, new Num(), at);
                return new Num();
            }
            case 14: {
                Type one = find(p[0], known);
                Type other = find(p[1], known);
                same(other, one, at);
                need(comparable(one), 5, at);
                return new Num();
            }
            default:
                throw new IllegalStateException("cases");
        }
    }

    private Type findLet(Term term, Map<Integer, Scheme> known) throws Fault {
        Type meant;
        if (term.kind == 4) {
            meant = find(term.parts[0], known);
        } else {
            Var own = new Var();
            meant = find(term.parts[0], with(known, term.which, plain(own)));
            same(meant, own, term.number);
        }
        Set<Object> general = new LinkedHashSet<>();
        variables(meant, general);
        for (Scheme scheme : known.values()) {
            Set<Object> fixed = new HashSet<>();
            variables(scheme.type, fixed);
            fixed.removeAll(scheme.general);
            general.removeAll(fixed);
        }
        int places = 0;
        for (Object variable : general) {
            places += variable instanceof RowVar ? ((RowVar) variable).lacks.size() : 0;
        }
        handed.merge(term.number, places, Math::max);
        return find(term.parts[1], with(known, term.which, new Scheme(meant, general)));
    }

    private Type findMatch(Term term, Map<Integer, Scheme> known) throws Fault {
        Type whole = find(term.parts[0], known);
        Row row = new Row(null);
        List<Term> cases = new ArrayList<>();
        List<Type> names = new ArrayList<>();
        Term at = term.parts[1];
        while (at.kind == 17) {
            need(!row.labels.containsKey(at.which), 4, at.number);
            Var named = new Var();
            row.labels.put(at.which, named);
            cases.add(at);
            names.add(named);
            at = at.parts[1];
        }
        if (at.kind == 16) {
            row.end = lacking(row.labels.keySet());
            cases.add(at);
            names.add(new Rows(false, new Row(row.end)));
        }
        same(whole, new Rows(false, row), term.number);
        Var result = new Var();
        for (int i = 0; i < cases.size(); i++) {
            Term one = cases.get(i);
            int name = one.kind == 17 ? one.name : one.which;
            Type body = find(one.parts[0], with(known, name, plain(names.get(i))));
            same(body, result, one.number);
        }
        return result;
    }

    // ---- what is asked of types

    int error;
    int errorAt;
    String text;

    void check(Term term) {
        error = 0;
        errorAt = -1;
        text = null;
        handed.clear();
        if (term.isCases()) {
            error = 7;
            return;
        }
        try {
            text = text(find(term, Map.of()));
        } catch (Fault fault) {
            error = fault.error;
            errorAt = fault.at;
        }
    }

    private static final int LONG_TEXT = 4000;

    private static String text(Type type) {
        StringBuilder told = new StringBuilder();
        Map<Object, Integer> letters = new LinkedHashMap<>();
        text(type, told, letters);
        for (Map.Entry<Object, Integer> entry : letters.entrySet()) {
            Object variable = entry.getKey();
            boolean row = variable instanceof RowVar;
            boolean equal = row ? ((RowVar) variable).comparable : ((Var) variable).comparable;
            Set<Integer> lacks = row ? ((RowVar) variable).lacks : Set.of();
            if (equal || !lacks.isEmpty()) {
                told.append(' ').append(letter(entry.getValue()));
            }
            if (equal) {
                told.append('=');
            }
            if (!lacks.isEmpty()) {
                told.append('/');
            }
            for (int label : lacks) {
                told.append(label);
            }
        }
        return cut(told);
    }

    private static String cut(StringBuilder told) {
        return told.length() > 300 ? told.substring(0, 300) : told.toString();
    }

    private static char letter(int number) {
        String letters = "abcdefghijklmnopqrstuvwxyzABCDEFGHIJKLMNOPQRSTUVWXYZ";
        return number < letters.length() ? letters.charAt(number) : '?';
    }

    private static void letter(Object variable, StringBuilder told, Map<Object, Integer> letters) {
        letters.putIfAbsent(variable, letters.size());
        told.append(letter(letters.get(variable)));
    }

    private static void text(Type type, StringBuilder told, Map<Object, Integer> letters) {
        Type t = prune(type);
        if (told.length() > LONG_TEXT) {
            return;
        }
        if (t instanceof Num) {
            told.append('N');
        } else if (t instanceof Var) {
            letter(t, told, letters);
        } else if (t instanceof Fun) {
            told.append('(');
            text(((Fun) t).from, told, letters);
            told.append('>');
            text(((Fun) t).to, told, letters);
            told.append(')');
        } else {
            boolean record = ((Rows) t).record;
            Row row = prune(((Rows) t).row);
            told.append(record ? '{' : '[');
            String between = "";
            for (Map.Entry<Integer, Type> entry : row.labels.entrySet()) {
                told.append(between).append(entry.getKey()).append(':');
                text(entry.getValue(), told, letters);
                between = ",";
            }
            if (row.end != null) {
                told.append('|');
                letter(row.end, told, letters);
            }
            told.append(record ? '}' : ']');
        }
    }

    // ---- doing

    private static final class TooFar extends RuntimeException {
        private static final long serialVersionUID = 1L;
    }

    private abstract static class Value {
    }

    private static final class Number extends Value {
        final int number;

        Number(int number) {
            this.number = number;
        }
    }

    private static final class Closure extends Value {
        final Term term;
        final Map<Integer, Object> known;

        Closure(Term term, Map<Integer, Object> known) {
            this.term = term;
            this.known = known;
        }
    }

    private static final class Record extends Value {
        final TreeMap<Integer, Value> labels = new TreeMap<>();
    }

    private static final class Variant extends Value {
        final int label;
        final Value value;

        Variant(int label, Value value) {
            this.label = label;
            this.value = value;
        }
    }

    /** The name of a REC within its own e. */
    private static final class Anew {
        final Term term;
        final Map<Integer, Object> known;

        Anew(Term term, Map<Integer, Object> known) {
            this.term = term;
            this.known = known;
        }
    }

    int steps;
    String result;

    private void step() {
        if (steps == 1000) {
            throw new TooFar();
        }
        steps++;
    }

    void run(Term term) {
        steps = 0;
        result = null;
        try {
            StringBuilder told = new StringBuilder();
            tell(value(term, Map.of()), told);
            result = cut(told);
        } catch (TooFar tooFar) {
            result = null;
        }
    }

    private static Map<Integer, Object> knowing(Map<Integer, Object> known, int name, Object what) {
        Map<Integer, Object> more = new HashMap<>(known);
        more.put(name, what);
        return more;
    }

    private Value value(Term term, Map<Integer, Object> known) {
        Term[] p = term.parts;
        step();
        switch (term.kind) {
            case 0:
                return new Number(term.which);
            case 1: {
                Object what = known.get(term.which);
                if (what instanceof Anew) {
                    return value(((Anew) what).term, ((Anew) what).known);
                }
                return (Value) what;
            }
            case 2:
                return new Closure(term, known);
            case 3: {
                Closure function = (Closure) value(p[0], known);
                Value given = value(p[1], known);
                Map<Integer, Object> inner = knowing(function.known, function.term.which, given);
                return value(function.term.parts[0], inner);
            }
            case 4:
                return value(p[1], knowing(known, term.which, value(p[0], known)));
            case 5: {
                Map<Integer, Object> inner = new HashMap<>(known);
                inner.put(term.which, new Anew(p[0], inner));
                return value(p[1], knowing(known, term.which, value(p[0], inner)));
            }
            case 6:
                return new Record();
            case 7: {
                Record more = new Record();
                Value value = value(p[0], known);
                more.labels.putAll(((Record) value(p[1], known)).labels);
                if (more.labels.put(term.which, value) != null) {
                    throw new IllegalStateException("the label was there");
                }
                return more;
            }
            case 8:
                return ((Record) value(p[0], known)).labels.get(term.which);
            case 9: {
                Record less = new Record();
                less.labels.putAll(((Record) value(p[0], known)).labels);
                less.labels.remove(term.which);
                return less;
            }
            case 10:
                return new Variant(term.which, value(p[0], known));
            case 11:
                return chosen(p[1], (Variant) value(p[0], known), known);
            case 12:
                return value(((Number) value(p[0], known)).number != 0 ? p[1] : p[2], known);
            case 13: {
                int one = ((Number) value(p[0], known)).number;
                return new Number(one + ((Number) value(p[1], known)).number);
            }
            default: {
                Value one = value(p[0], known);
                return new Number(areSame(one, value(p[1], known)) ? 1 : 0);
            }
        }
    }

    private Value chosen(Term cases, Variant variant, Map<Integer, Object> known) {
        if (cases.kind == 16) {
            return value(cases.parts[0], knowing(known, cases.which, variant));
        }
        if (cases.which == variant.label) {
            return value(cases.parts[0], knowing(known, cases.name, variant.value));
        }
        return chosen(cases.parts[1], variant, known);
    }

    private boolean areSame(Value one, Value other) {
        step();
        if (one instanceof Number) {
            return ((Number) one).number == ((Number) other).number;
        }
        if (one instanceof Variant) {
            return ((Variant) one).label == ((Variant) other).label
                    && areSame(((Variant) one).value, ((Variant) other).value);
        }
        for (int label : ((Record) one).labels.keySet()) {
            if (!areSame(((Record) one).labels.get(label), ((Record) other).labels.get(label))) {
                return false;
            }
        }
        return true;
    }

    /** Told without recursion into what stands behind the 300th sign: values can be long. */
    private static void tell(Value value, StringBuilder told) {
        Deque<Object> toTell = new ArrayDeque<>();
        toTell.push(value);
        while (!toTell.isEmpty() && told.length() < 300) {
            Object next = toTell.pop();
            if (next instanceof String) {
                told.append((String) next);
            } else if (next instanceof Number) {
                told.append(((Number) next).number);
            } else if (next instanceof Closure) {
                told.append('F');
            } else if (next instanceof Variant) {
                told.append('[').append(((Variant) next).label).append(':');
                toTell.push("]");
                toTell.push(((Variant) next).value);
            } else {
                told.append('{');
                toTell.push("}");
                String behind = "";
                for (Map.Entry<Integer, Value> entry
                        : ((Record) next).labels.descendingMap().entrySet()) {
                    if (!behind.isEmpty()) {
                        toTell.push(behind);
                    }
                    toTell.push(entry.getValue());
                    toTell.push(entry.getKey() + ":");
                    behind = ",";
                }
            }
        }
    }

    // ---- making terms as the program does, for its numbers

    final List<Term> terms = new ArrayList<>();

    Term next(int kind, int which, int name, Term... parts) {
        return new Term(terms.size(), kind, which, name, parts);
    }
}
