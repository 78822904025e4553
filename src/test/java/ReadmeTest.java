import java.io.IOException;
import java.lang.reflect.InvocationTargetException;
import java.lang.reflect.Method;
import java.nio.file.Files;
import java.nio.file.Path;
import java.util.ArrayList;
import java.util.HashMap;
import java.util.List;
import java.util.Map;
import java.util.Set;
import java.util.TreeMap;
import java.util.TreeSet;
import java.util.regex.Matcher;
import java.util.regex.Pattern;

/**
 * README.md is read from the directory that the test is started in: every call that it shows is made
 * and every answer that it shows is compared, so that neither can change without the other.
 */
public final class ReadmeTest {
    private static final int MOST_CALLS = 512;
    /** More than there is room for of anything. */
    private static final int TOO_MANY = 30;
    private static final Pattern NEW_OBJECT =
        Pattern.compile("DynamicNeeds x = new DynamicNeeds\\((-?\\d+)\\); +// .+");
    private static final Pattern CALL = Pattern.compile(
        "(?:(\\w+) (\\w+) = )?x\\.(\\w+)\\(([^()]*)\\); +// (-?\\d+|true|false|NONE)(?:: .+)?");
    private static final Pattern TABLE_ROW =
        Pattern.compile("\\| `(\\w+)\\(([\\w, ]*)\\)` \\| .+ \\| `(-?\\d+|false|NONE)` if .+ \\|");

    private static final Map<String, Method> METHODS = new TreeMap<>();

    /** The run that is being read: its object, what its names stand for, and its calls so far. */
    private static DynamicNeeds object;
    private static final Map<String, Object> NAMES = new HashMap<>();
    private static int calls;
    private static final Set<String> CALLED = new TreeSet<>();

    public static void main(String[] args) throws IOException {
        for (Method method : FaceTest.publicMethods()) {
            METHODS.put(method.getName(), method);
        }
        List<String> lines = Files.readAllLines(Path.of("README.md"));
        goThroughRuns(lines);
        goThroughTable(lines);
        Check.part("512 calls");
        Check.due("told", String.join(" ", lines).contains("at most 512 calls"), true);
        Check.end();
    }

    private static void goThroughRuns(List<String> lines) {
        int runs = 0;
        boolean inside = false;
        for (int i = 0; i < lines.size(); i++) {
            String line = lines.get(i);
            if (line.equals("```java")) {
                inside = true;
                object = null;
                runs++;
            } else if (line.equals("```")) {
                inside = false;
            } else if (inside && !line.isEmpty() && !line.startsWith("//")) {
                Check.sentence("README.md, line " + (i + 1), () -> goThroughLine(line));
            }
        }
        Check.part("runs of calls");
        Check.due("runs shown", runs > 0, true);
        Check.same("calls shown", CALLED.toString(), METHODS.keySet().toString());
    }

    private static void goThroughLine(String line) {
        Matcher made = NEW_OBJECT.matcher(line);
        if (made.matches()) {
            Check.due("a run has one object", object == null, true);
            object = new DynamicNeeds(Integer.parseInt(made.group(1)));
            NAMES.clear();
            calls = 0;
            return;
        }
        Matcher call = CALL.matcher(line);
        if (!call.matches()) {
            throw new IllegalArgumentException("neither a call with its answer nor a new object: " + line);
        }
        Method method = methodOf(call.group(3));
        Object answer = answerOf(method, object, argumentsOf(method, call.group(4)));
        Check.same(line, answer.toString(), numberOf(call.group(5)));
        if (call.group(2) != null) {
            Check.same("type of " + call.group(2), call.group(1), method.getReturnType().getName());
            Check.due("name is new", NAMES.put(call.group(2), answer) == null, true);
        }
        calls++;
        Check.due("at most 512 calls", calls <= MOST_CALLS, true);
        CALLED.add(method.getName());
    }

    private static Method methodOf(String name) {
        Method method = METHODS.get(name);
        if (method == null) {
            throw new IllegalArgumentException("no call of the face: " + name);
        }
        return method;
    }

    private static Object[] argumentsOf(Method method, String text) {
        String[] words = text.split(", ");
        Class<?>[] types = method.getParameterTypes();
        if (words.length != types.length) {
            throw new IllegalArgumentException(method.getName() + " takes " + types.length + " arguments");
        }
        Object[] arguments = new Object[types.length];
        for (int i = 0; i < types.length; i++) {
            arguments[i] = NAMES.containsKey(words[i]) ? NAMES.get(words[i]) : valueOf(types[i], words[i]);
        }
        return arguments;
    }

    private static Object valueOf(Class<?> type, String word) {
        if (type == boolean.class) {
            Check.due("true or false: " + word, word.equals("true") || word.equals("false"), true);
            return Boolean.valueOf(word);
        }
        if (type == int.class) {
            return Integer.valueOf(word);
        }
        return Long.valueOf(word.endsWith("L") ? word.substring(0, word.length() - 1) : word);
    }

    private static String numberOf(String answer) {
        return answer.equals("NONE") ? Integer.toString(DynamicNeeds.NONE) : answer;
    }

    private static Object answerOf(Method method, DynamicNeeds x, Object... arguments) {
        try {
            return method.invoke(x, arguments);
        } catch (IllegalAccessException | InvocationTargetException thrown) {
            throw new IllegalStateException(method.getName() + " threw", thrown);
        }
    }

    private static void goThroughTable(List<String> lines) {
        List<String> told = new ArrayList<>();
        for (String line : lines) {
            Matcher row = TABLE_ROW.matcher(line);
            if (row.matches()) {
                told.add(row.group(1));
                Check.sentence("README.md, table, " + row.group(1), () -> goThroughRow(row));
            }
        }
        Check.part("table");
        Check.due("as many rows as calls", told.size(), METHODS.size());
        Check.same("rows", new TreeSet<>(told).toString(), METHODS.keySet().toString());
    }

    private static void goThroughRow(Matcher row) {
        Method method = methodOf(row.group(1));
        Check.due("parameters", row.group(2).split(", ").length, method.getParameterCount());
        String due = numberOf(row.group(3));
        if (Set.of("file", "action", "row", "mapping").contains(method.getName())) {
            answersWithoutRoom(method, due);
        }
        if (!Set.of("file", "action").contains(method.getName())) {
            answersForWrongNumbers(method, due);
        }
    }

    /** Each of the int parameters in turn is wrong, the others are right. */
    private static void answersForWrongNumbers(Method method, String due) {
        DynamicNeeds x = withOneOfEach();
        Class<?>[] types = method.getParameterTypes();
        for (int i = 0; i < types.length; i++) {
            for (int wrong : types[i] == int.class ? Scene.wrongNumbers(TOO_MANY) : new int[0]) {
                Object[] arguments = rightArguments(types);
                arguments[i] = wrong;
                Check.same(method.getName() + " of " + wrong, answerOf(method, x, arguments).toString(), due);
            }
        }
    }

    private static void answersWithoutRoom(Method method, String due) {
        DynamicNeeds x = withOneOfEach();
        Object[] arguments = rightArguments(method.getParameterTypes());
        Object answer = answerOf(method, x, arguments);
        Check.due("there is room at first", !answer.toString().equals(due), true);
        for (int i = 0; i < TOO_MANY; i++) {
            answer = answerOf(method, x, arguments);
        }
        Check.same(method.getName() + " without room", answer.toString(), due);
    }

    private static Object[] rightArguments(Class<?>[] types) {
        Object[] arguments = new Object[types.length];
        for (int i = 0; i < types.length; i++) {
            arguments[i] = valueOf(types[i], types[i] == boolean.class ? "true" : "0");
        }
        return arguments;
    }

    /** The action 0 reads the file 0 and makes the file 1 of one member, which the mapping 0 has mapped. */
    private static DynamicNeeds withOneOfEach() {
        DynamicNeeds x = Scene.withTree(221L);
        Check.due("mapping", x.mapping(1, 2L), 0);
        Check.due("map", x.map(0), 1);
        return x;
    }
}
