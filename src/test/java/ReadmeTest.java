import java.lang.reflect.Field;
import java.lang.reflect.Method;
import java.lang.reflect.Modifier;
import java.nio.file.DirectoryStream;
import java.nio.file.Files;
import java.nio.file.Path;
import java.util.ArrayList;
import java.util.List;
import java.util.Map;
import java.util.TreeMap;
import java.util.regex.Matcher;
import java.util.regex.Pattern;

/**
 * README.md itself: each call of its examples is made, and must answer what stands behind it; its tables must
 * name the calls, the constants and the tests that there are.
 */
public final class ReadmeTest {
    private static final String NEW_OBJECT = "ShardGroups x = new ShardGroups();";
    private static final String CALL_FORM = "x\\.(\\w+)\\(([-\\d, ]*)\\);";
    private static final Pattern CALL = Pattern.compile(CALL_FORM + " *// (-?\\w+)(: .+)?");
    private static final Pattern LOOP =
            Pattern.compile("for \\(int i = 0; i < (\\d+); i\\+\\+\\) \\{ " + CALL_FORM + " \\}");
    private static final Pattern CALL_ROW = Pattern.compile("\\| `(\\w+)\\(([\\w, ]+)\\)` \\|.*");
    private static final Pattern CONSTANT_ROW = Pattern.compile("\\| `([A-Z]+)` \\| (-\\d) \\| .+");
    private static final int CALLS = 512;
    private static final Dues DUES = new Dues();

    private ShardGroups x;
    private int made;
    private final Map<String, Integer> called = new TreeMap<>();
    private final Map<String, Integer> answered = new TreeMap<>();

    public static void main(String[] args) throws Exception {
        List<String> lines = Files.readAllLines(Path.of("README.md"));
        ReadmeTest test = new ReadmeTest();
        for (String line : exampleLines(lines)) {
            test.follow(line);
        }
        test.testThatAllIsShown();
        testTheTableOfCalls(lines);
        testTheTableOfConstants(lines);
        testTheTableOfTests(lines);
        DUES.end();
    }

    private static List<String> exampleLines(List<String> lines) {
        List<String> found = new ArrayList<>();
        boolean inside = false;
        for (String line : lines) {
            if (line.startsWith("```")) {
                inside = line.equals("```java");
            } else if (inside && !line.isBlank()) {
                found.add(line);
            }
        }
        return found;
    }

    /** A line that is not understood counts as wrong, so that none is passed over. */
    private void follow(String line) throws Exception {
        Matcher call = CALL.matcher(line);
        Matcher loop = LOOP.matcher(line);
        if (line.equals(NEW_OBJECT)) {
            x = new ShardGroups();
            made = 0;
        } else if (x != null && call.matches()) {
            String got = answerOf(call.group(1), call.group(2));
            DUES.due(line + " [it was " + got + "]", got.equals(meaning(call.group(3))), true);
            called.merge(call.group(1), 1, Integer::sum);
            answered.merge(call.group(3), 1, Integer::sum);
        } else if (x != null && loop.matches()) {
            for (int i = 0; i < Integer.parseInt(loop.group(1)); i++) {
                answerOf(loop.group(2), loop.group(3));
            }
        } else {
            DUES.due("not understood: " + line, false, true);
        }
        DUES.due("within 512 calls: " + line, made <= CALLS, true);
    }

    private String answerOf(String name, String args) throws Exception {
        made++;
        String[] words = args.split(", ");
        Object[] numbers = new Object[words.length];
        Class<?>[] types = new Class<?>[words.length];
        for (int i = 0; i < words.length; i++) {
            numbers[i] = Integer.valueOf(words[i]);
            types[i] = int.class;
        }
        return String.valueOf(ShardGroups.class.getMethod(name, types).invoke(x, numbers));
    }

    /** The name of a constant means its value; any other word means itself. */
    private static String meaning(String word) throws Exception {
        for (Field field : ShardGroups.class.getFields()) {
            if (field.getName().equals(word)) {
                return String.valueOf(field.getInt(null));
            }
        }
        return word;
    }

    private void testThatAllIsShown() {
        for (String name : countsOfParameters().keySet()) {
            DUES.due("the example has " + name, called.containsKey(name), true);
        }
        for (Field field : ShardGroups.class.getFields()) {
            DUES.due("the example has " + field.getName(), answered.containsKey(field.getName()), true);
        }
    }

    private static void testTheTableOfCalls(List<String> lines) {
        Map<String, Integer> named = new TreeMap<>();
        for (String line : lines) {
            Matcher row = CALL_ROW.matcher(line);
            if (row.matches()) {
                named.put(row.group(1), row.group(2).split(", ").length);
            }
        }
        DUES.due("the calls of the table are " + named, named.equals(countsOfParameters()), true);
    }

    private static Map<String, Integer> countsOfParameters() {
        Map<String, Integer> counts = new TreeMap<>();
        for (Method method : ShardGroups.class.getDeclaredMethods()) {
            if (Modifier.isPublic(method.getModifiers())) {
                counts.put(method.getName(), method.getParameterCount());
            }
        }
        return counts;
    }

    private static void testTheTableOfConstants(List<String> lines) throws Exception {
        Map<String, String> named = new TreeMap<>();
        for (String line : lines) {
            Matcher row = CONSTANT_ROW.matcher(line);
            if (row.matches()) {
                named.put(row.group(1), row.group(2));
            }
        }
        Map<String, String> there = new TreeMap<>();
        for (Field field : ShardGroups.class.getFields()) {
            there.put(field.getName(), String.valueOf(field.getInt(null)));
        }
        DUES.due("the constants of the table are " + named, named.equals(there), true);
    }

    private static void testTheTableOfTests(List<String> lines) throws Exception {
        StringBuilder rows = new StringBuilder();
        for (String line : lines) {
            rows.append(line.startsWith("| ") ? line : "");
        }
        try (DirectoryStream<Path> files = Files.newDirectoryStream(Path.of("src/test/java"), "*Test.java")) {
            for (Path file : files) {
                String name = file.getFileName().toString().replace(".java", "");
                DUES.due("the table of tests has " + name, rows.indexOf(name) >= 0, true);
            }
        }
    }
}
