import java.util.ArrayList;
import java.util.List;

/** Random terms, the same ones each time: every answer is held against that of the model. */
public final class RandomTermsTest {
    private static final int OBJECTS = 3000;
    /** An object is done with as soon as a term more could take it beyond its 512 calls. */
    private static final int CALLS_OF_ONE_TERM = 100;
    private static final int SIGNS_READ = 20;
    private static final int PLACES_ASKED = 10;

    private static long seed = 20261119L;
    private static final int[] seen = new int[64];
    private static final int[] errors = new int[8];

    private static int random(int bound) {
        seed = seed * 6364136223846793005L + 1442695040888963407L;
        return (int) ((seed >>> 33) % bound);
    }

    private static void due(String call, Object got, Object want) {
        Due.due(call, got, want);
    }

    // ---- trees of terms: names are known as to what they may stand for, so that many have types

    private static final int NUMBER = 0;
    private static final int RECORD = 1;
    private static final int VARIANT = 2;
    private static final int FUNCTION = 3;
    private static final int ANY = 4;

    private static Model.Term tree(int kind, int which, int name, Model.Term... parts) {
        return new Model.Term(-1, kind, which, name, parts);
    }

    private static int names;
    private static int labels;

    private static Model.Term any(int sort, int budget, int[] scope) {
        if (random(60) == 0) {
            sort = random(5);
        }
        if (sort == ANY) {
            sort = random(4);
        }
        if (random(3) == 0 || budget < 3) {
            int from = random(10);
            for (int i = 0; i < 10; i++) {
                int name = (from + i) % 10;
                if (scope[name] == sort || scope[name] == ANY) {
                    return tree(1, name, 0);
                }
            }
        }
        if (budget < 3) {
            return small(sort, scope);
        }
        switch (random(12)) {
            case 0:
            case 1:
                return let(4, sort, budget, scope);
            case 2:
                return let(5, sort, budget, scope);
            case 3:
                return tree(3, 0, 0, any(FUNCTION, budget / 2, scope), any(ANY, budget / 2, scope));
            case 4: {
                Model.Term asked = any(NUMBER, budget / 4, scope);
                Model.Term one = any(sort, budget * 3 / 8, scope);
                return tree(12, 0, 0, asked, one, any(sort, budget * 3 / 8, scope));
            }
            case 5: {
                Model.Term whole = any(VARIANT, budget / 3, scope);
                return tree(11, 0, 0, whole, cases(sort, budget * 2 / 3, scope, 3));
            }
            case 6: {
                int label = random(labels);
                Model.Term rest = any(RECORD, budget / 2, scope);
                if (random(2) == 0) {
                    rest = tree(7, label, 0, any(sort, budget / 2, scope), rest);
                }
                return tree(8, label, 0, rest);
            }
            case 7:
                return random(2) == 0 ? twice(sort, budget, scope) : opened(budget, scope);
            default:
                return bySort(sort, budget, scope);
        }
    }

    private static Model.Term small(int sort, int[] scope) {
        switch (sort) {
            case NUMBER:
                return tree(0, random(8) == 0 ? random(199) - 99 : random(3), 0);
            case RECORD:
                return tree(6, 0, 0);
            case VARIANT:
                return tree(10, random(labels), 0, any(ANY, 1, scope));
            default: {
                int name = random(names);
                return tree(2, name, 0, any(ANY, 1, with(scope, name, ANY)));
            }
        }
    }

    private static int[] with(int[] scope, int name, int sort) {
        int[] more = scope.clone();
        more[name] = sort;
        return more;
    }

    private static Model.Term let(int kind, int sort, int budget, int[] scope) {
        int name = random(names);
        int meant = random(3) == 0 ? random(4) : FUNCTION;
        int[] inner = with(scope, name, meant);
        Model.Term first = any(meant, budget / 2, kind == 5 ? inner : scope);
        return tree(kind, name, 0, first, any(sort, budget / 2, inner));
    }

    private static Model.Term bySort(int sort, int budget, int[] scope) {
        int name = random(names);
        int label = random(labels);
        switch (sort) {
            case NUMBER: {
                int both = random(5);
                int kind = both == NUMBER || random(3) == 0 ? 13 : 14;
                int parts = kind == 13 ? NUMBER : both;
                Model.Term one = any(parts, budget / 2, scope);
                return tree(kind, 0, 0, one, random(4) == 0 ? one : any(parts, budget / 2, scope));
            }
            case RECORD:
                if (random(3) == 0) {
                    return tree(9, label, 0, any(RECORD, budget - 1, scope));
                }
                return tree(7, label, 0, any(ANY, budget / 2, scope),
                        any(RECORD, budget / 2, scope));
            case VARIANT:
                return tree(10, label, 0, any(ANY, budget - 1, scope));
            default:
                return tree(2, name, 0, any(ANY, budget - 1, with(scope, name, random(5))));
        }
    }

    /** A function that counts down and gives itself to do something as often. */
    private static Model.Term twice(int sort, int budget, int[] scope) {
        int own = random(names);
        int count = random(names);
        if (own == count || budget < 16) {
            return bySort(sort, budget, scope);
        }
        int[] inner = with(with(scope, own, FUNCTION), count, NUMBER);
        Model.Term less = tree(13, 0, 0, tree(1, count, 0), tree(0, -1, 0));
        Model.Term again = tree(3, 0, 0, tree(1, own, 0), less);
        Model.Term more = again;
        switch (sort) {
            case NUMBER:
                more = tree(13, 0, 0, any(NUMBER, budget / 8, inner), again);
                break;
            case RECORD:
                if (random(2) == 0) {
                    more = tree(7, random(labels), 0, again, tree(6, 0, 0));
                }
                break;
            case VARIANT:
                if (random(2) == 0) {
                    more = tree(10, random(labels), 0, again);
                }
                break;
            default:
                break;
        }
        Model.Term last = any(sort, budget / 8, inner);
        Model.Term body = tree(12, 0, 0, tree(1, count, 0), more, last);
        Model.Term times = tree(0, random(3) == 0 ? random(99) : random(10), 0);
        Model.Term use = tree(3, 0, 0, tree(1, own, 0), times);
        return tree(5, own, 0, tree(2, count, 0, body), use);
    }

    /** A function of an open record, given two records with unlike labels. */
    private static Model.Term opened(int budget, int[] scope) {
        int own = random(names);
        int whole = random(names);
        if (budget < 22) {
            return bySort(RECORD, budget, scope);
        }
        Model.Term body = tree(1, whole, 0);
        for (int turn = 1 + random(3); turn > 0; turn--) {
            int label = random(labels);
            body = random(2) == 0 ? tree(9, label, 0, body)
                    : tree(7, label, 0, tree(8, random(labels), 0, tree(1, whole, 0)), body);
        }
        if (random(3) == 0) {
            return openedBoth(own, whole);
        }
        Model.Term[] used = new Model.Term[2];
        for (int one = 0; one < 2; one++) {
            used[one] = tree(3, 0, 0, tree(1, own, 0), flat());
        }
        Model.Term both = tree(7, 0, 0, used[0], tree(7, 1, 0, used[1], tree(6, 0, 0)));
        return tree(4 + random(2), own, 0, tree(2, whole, 0, body), both);
    }

    private static Model.Term flat() {
        Model.Term record = tree(6, 0, 0);
        for (int turn = 2 + random(2); turn > 0; turn--) {
            record = tree(7, random(labels), 0, tree(0, random(9), 0), record);
        }
        return record;
    }

    /** A function of two open records, whose places are handed in together. */
    private static Model.Term openedBoth(int own, int one) {
        int other = random(names);
        Model.Term parts = tree(7, 0, 0, tree(8, random(labels), 0, tree(1, one, 0)),
                tree(7, 1, 0, tree(8, random(labels), 0, tree(1, other, 0)), tree(6, 0, 0)));
        Model.Term given = tree(3, 0, 0, tree(1, own, 0), flat());
        Model.Term body = tree(2, one, 0, tree(2, other, 0, parts));
        return tree(4 + random(2), own, 0, body, tree(3, 0, 0, given, flat()));
    }

    private static Model.Term cases(int sort, int budget, int[] scope, int most) {
        int name = random(names);
        if (most == 0 || budget < 4 || random(4) == 0) {
            if (random(2) == 0) {
                return tree(15, 0, 0);
            }
            return tree(16, name, 0, any(sort, budget - 1, with(scope, name, VARIANT)));
        }
        Model.Term body = any(sort, budget / 2, with(scope, name, random(2) == 0 ? ANY : NUMBER));
        return tree(17, random(labels), name, body, cases(sort, budget / 2, scope, most - 1));
    }

    private static int number(Model.Term term, int part) {
        return part < term.parts.length ? term.parts[part].number : random(300) - 100;
    }

    private static int make(Asked x, Model.Term term) {
        switch (term.kind) {
            case 0:
            case 1:
            case 6:
            case 15:
                return x.leaf(term.kind, term.which);
            case 17:
                return x.match(term.which, term.name, number(term, 0), number(term, 1));
            case 3:
            case 11:
            case 12:
            case 13:
            case 14:
                return x.made(term.kind, number(term, 0), number(term, 1), number(term, 2));
            default:
                return x.named(term.kind, term.which, number(term, 0), number(term, 1));
        }
    }

    private static void add(Asked x, Model model, Model.Term term) {
        due("making a term", make(x, term), term.number);
        model.terms.add(term);
        seen[term.kind]++;
    }

    /** Makes all terms of a tree; one that was made before is often used again. */
    private static Model.Term addAll(Asked x, Model model, Model.Term tree) {
        Model.Term[] parts = new Model.Term[tree.parts.length];
        for (int i = 0; i < parts.length; i++) {
            parts[i] = addAll(x, model, tree.parts[i]);
        }
        for (Model.Term old : model.terms) {
            if (old.kind == tree.kind && old.which == tree.which && old.name == tree.name
                    && java.util.Arrays.equals(old.parts, parts) && random(8) != 0) {
                return old;
            }
        }
        Model.Term term = model.next(tree.kind, tree.which, tree.name, parts);
        add(x, model, term);
        return term;
    }

    private static String describe(Model.Term term) {
        StringBuilder told = new StringBuilder();
        told.append(term.kind).append('.').append(term.which);
        if (term.kind == 17) {
            told.append('.').append(term.name);
        }
        told.append('(');
        for (Model.Term part : term.parts) {
            told.append(describe(part)).append(' ');
        }
        return told.append(')').toString();
    }

    private static void holdTypes(Asked x, Model model, Model.Term term) {
        int at = term.number;
        model.check(term);
        String name = describe(term);
        int oldAt = x.errorAt();
        if (random(2) == 0) {
            try {
                int size = x.size(at);
                due("size " + name, size, model.error == 0 ? model.text.length() : "throws");
            } catch (IllegalStateException e) {
                due("size " + name, "throws", model.error == 0 ? model.text : "throws");
            }
            due("errorAt behind size", x.errorAt(), oldAt);
        }
        due("check " + name, x.check(at), model.error);
        due("errorAt " + name, x.errorAt(), model.errorAt);
        errors[model.error]++;
        if (model.error != 0) {
            return;
        }
        due("size " + name, x.size(at), model.text.length());
        for (int number = 0; number < Math.min(SIGNS_READ, model.text.length()); number++) {
            int sign = readAt(number, model.text);
            due("sign " + sign + " " + name, x.sign(at, sign), model.text.charAt(sign));
        }
        due("behind type " + name, (int) x.sign(at, model.text.length()), 32);
        holdPlaces(x, model, term);
        holdAlike(x, model, term);
    }

    /** Short texts are read sign by sign, long ones here and there, and at their end. */
    private static int readAt(int number, String text) {
        if (text.length() <= SIGNS_READ) {
            return number;
        }
        return number == 0 ? text.length() - 1 : random(text.length());
    }

    private static void holdPlaces(Asked x, Model model, Model.Term term) {
        int left = PLACES_ASKED;
        int from = random(model.terms.size());
        for (int number = 0; number < model.terms.size() && left > 0; number++) {
            Model.Term other = model.terms.get((from + number) % model.terms.size());
            if (other.kind == 4 || other.kind == 5) {
                int most = model.handed.getOrDefault(other.number, -1);
                due("places " + other.number + " " + describe(term),
                        x.places(other.number, term.number), most);
                seen[32] += most > 0 ? 1 : 0;
                left--;
            }
        }
    }

    private static void holdAlike(Asked x, Model model, Model.Term term) {
        String text = model.text;
        Model.Term other = model.terms.get(random(model.terms.size()));
        model.check(other);
        if (model.error == 0) {
            due("areAlike " + describe(term) + " " + describe(other),
                    x.areAlike(term.number, other.number), text.equals(model.text));
            seen[36] += text.equals(model.text) && other != term ? 1 : 0;
        }
        model.check(term);
    }

    private static void holdDoing(Asked x, Model model, Model.Term term) {
        int at = term.number;
        String name = describe(term);
        model.run(term);
        if (random(2) == 0) {
            due("agrees ahead of run " + name, x.agrees(at), true);
        }
        int run = x.run(at);
        due("run " + name, run, model.result == null ? -1 : model.result.length());
        due("steps " + name, x.steps(), model.steps);
        String text = model.result == null ? "" : model.result;
        for (int number = 0; number < Math.min(SIGNS_READ, text.length()); number++) {
            int sign = readAt(number, text);
            due("result " + sign + " " + name, x.result(sign), text.charAt(sign));
        }
        due("behind result " + name, (int) x.result(text.length()), 32);
        due("agrees " + name, x.agrees(at), true);
        due("steps behind agrees " + name, x.steps(), model.steps);
        seen[33] += model.result == null ? 1 : 0;
        seen[34] += model.steps > 60 ? 1 : 0;
        seen[35] += text.length() == 300 ? 1 : 0;
    }

    private static void oneObject() {
        Asked x = new Asked();
        Model model = new Model();
        names = 1 + random(4);
        labels = 1 + random(random(5) == 0 ? 10 : 4);
        while (true) {
            Model.Term tree = any(random(5), 6 + random(random(2) == 0 ? 40 : 25), fresh());
            if (tree.weight > 30) {
                continue;
            }
            int calls = x.calls() + tree.weight + CALLS_OF_ONE_TERM + 1;
            if (model.terms.size() + tree.weight > 120 || calls > Asked.MOST_CALLS) {
                break;
            }
            model.check(tree);
            if (model.error != 0 && random(3) != 0) {
                continue;
            }
            Model.Term term = addAll(x, model, tree);
            hold(x, model, term);
            for (int some = random(4); some > 0; some--) {
                if (x.calls() + CALLS_OF_ONE_TERM < Asked.MOST_CALLS) {
                    hold(x, model, model.terms.get(random(model.terms.size())));
                }
            }
        }
        due("terms", x.terms(), model.terms.size());
    }

    private static int[] fresh() {
        int[] scope = new int[10];
        java.util.Arrays.fill(scope, -1);
        return scope;
    }

    private static void hold(Asked x, Model model, Model.Term term) {
        holdTypes(x, model, term);
        if (model.error == 0) {
            holdDoing(x, model, term);
        }
    }

    public static void main(String[] args) {
        int objects = args.length > 0 ? Integer.parseInt(args[0]) : OBJECTS;
        seed += args.length > 1 ? Long.parseLong(args[1]) : 0;
        for (int object = 0; object < objects && Due.wrong() < 20; object++) {
            oneObject();
        }
        System.out.println("errors " + java.util.Arrays.toString(errors));
        System.out.println("places, too far, long runs, long results, alike: " + seen[32] + " "
                + seen[33] + " " + seen[34] + " " + seen[35] + " " + seen[36]);
        Due.end();
    }
}
