import java.io.IOException;
import java.lang.reflect.InvocationTargetException;
import java.lang.reflect.Method;
import java.nio.file.Files;
import java.nio.file.Path;
import java.util.ArrayList;
import java.util.HashMap;
import java.util.List;
import java.util.Map;
import java.util.Set;
import java.util.TreeSet;
import java.util.regex.Matcher;
import java.util.regex.Pattern;

/**
 * The calls that README.md shows, read from there and made in their order, with the answers that it
 * gives for them. It runs in the project's folder.
 */
public final class ReadmeTest {
    private static final String BEGIN = "```java";
    private static final String END = "```";
    private static final Pattern CALL =
            Pattern.compile("(?:int (\\w+) = )?tongue\\.(\\w+)\\((.*)\\); +// (.+)");
    private static final Set<String> FACE = Set.of("leaf", "named", "made", "match", "terms",
            "check", "errorAt", "size", "sign", "areAlike", "run", "steps", "result", "agrees",
            "places");
    private static final int KINDS = 18;

    private final Map<String, Integer> named = new HashMap<>();
    private final Set<String> asked = new TreeSet<>();
    private final Set<Integer> kinds = new TreeSet<>();
    private RowenTongue tongue;
    private int calls = 0;

    public static void main(String[] args) throws IOException, ReflectiveOperationException {
        new ReadmeTest().readAll();
        Due.end();
    }

    private void readAll() throws IOException, ReflectiveOperationException {
        for (List<String> block : blocks()) {
            if (block.get(0).startsWith("static ")) {
                standsHere(block);
                continue;
            }
            for (String line : block) {
                read(line);
            }
        }
        Due.due("methods that README.md shows", asked, new TreeSet<>(FACE));
        Due.due("kinds of terms that README.md makes", kinds.size(), KINDS);
        Due.due("at most 512 calls", calls <= Asked.MOST_CALLS, true);
    }

    private static List<List<String>> blocks() throws IOException {
        List<List<String>> blocks = new ArrayList<>();
        boolean within = false;
        for (String line : Files.readAllLines(Path.of("README.md"))) {
            if (line.equals(BEGIN)) {
                blocks.add(new ArrayList<>());
                within = true;
            } else if (line.equals(END)) {
                within = false;
            } else if (within) {
                blocks.get(blocks.size() - 1).add(line);
            }
        }
        return blocks;
    }

    /** A method that README.md shows is one of this class too, by which texts are read here. */
    private static void standsHere(List<String> block) throws IOException {
        String shown = String.join("\n    ", block);
        String here = Files.readString(Path.of("src/test/java/ReadmeTest.java"));
        boolean stands = here.contains("\n    " + shown + "\n");
        Due.due(block.get(0) + " stands in ReadmeTest", stands, true);
    }

    static String type(RowenTongue tongue, int term) {
        StringBuilder text = new StringBuilder();
        int size = tongue.size(term);
        for (int at = 0; at < size; at++) {
            text.append(tongue.sign(term, at));
        }
        return text.toString();
    }

    private static String result(RowenTongue tongue, int size) {
        StringBuilder text = new StringBuilder();
        for (int at = 0; at < size; at++) {
            text.append(tongue.result(at));
        }
        return text.toString();
    }

    private void read(String line) throws ReflectiveOperationException {
        if (line.equals("RowenTongue tongue = new RowenTongue();")) {
            tongue = new RowenTongue();
            return;
        }
        Matcher call = CALL.matcher(line);
        if (!call.matches()) {
            Due.due(line, "no call with an answer", "a call with an answer");
            return;
        }
        String method = call.group(2);
        int[] given = given(call.group(3));
        String got = answer(method, given);
        Due.due(line, got, call.group(4).split(" +-- ")[0]);
        asked.add(method);
        if (call.group(1) != null) {
            named.put(call.group(1), Integer.parseInt(got));
            kinds.add(method.equals("match") ? KINDS - 1 : given[0]);
        }
    }

    private int[] given(String list) {
        if (list.isEmpty()) {
            return new int[0];
        }
        String[] parts = list.split(", ");
        int[] given = new int[parts.length];
        for (int i = 0; i < parts.length; i++) {
            Integer known = named.get(parts[i]);
            given[i] = known != null ? known : Integer.parseInt(parts[i]);
        }
        return given;
    }

    /** As README.md tells it: a sign in quotes, an exception's name, a text behind its size. */
    private String answer(String name, int[] given) throws ReflectiveOperationException {
        Class<?>[] types = new Class<?>[given.length];
        Object[] arguments = new Object[given.length];
        for (int i = 0; i < given.length; i++) {
            types[i] = int.class;
            arguments[i] = given[i];
        }
        Method method = RowenTongue.class.getMethod(name, types);
        calls++;
        try {
            Object got = method.invoke(tongue, arguments);
            return got instanceof Character ? "'" + got + "'" : got + text(name, given, got);
        } catch (InvocationTargetException e) {
            return "throws " + e.getCause().getClass().getSimpleName();
        }
    }

    private String text(String name, int[] given, Object size) {
        if (name.equals("size")) {
            calls += (Integer) size + 1;
            return ": " + type(tongue, given[0]);
        }
        if (name.equals("run") && (Integer) size >= 0) {
            calls += (Integer) size;
            return ": " + result(tongue, (Integer) size);
        }
        return "";
    }
}
