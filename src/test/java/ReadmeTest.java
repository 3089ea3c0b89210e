import java.io.IOException;
import java.lang.reflect.InvocationTargetException;
import java.lang.reflect.Method;
import java.lang.reflect.Modifier;
import java.nio.file.DirectoryStream;
import java.nio.file.Files;
import java.nio.file.Path;
import java.util.HashMap;
import java.util.List;
import java.util.Map;
import java.util.regex.Matcher;
import java.util.regex.Pattern;

/** README.md: its examples answer as it says, its tables have each call, and the files that it names are there. */
public final class ReadmeTest {
    private static final Path README = Path.of("README.md");
    private static final Path TESTS = Path.of("src/test/java");
    private static final String NEW_OBJECT = "FurrowTalk talk = new FurrowTalk();";
    private static final Pattern CALL =
        Pattern.compile("(?:int (\\w+) = )?talk\\.(\\w+)\\(([^()]*)\\);\\s*// (-?\\d+)(?::.*)?");
    private static final Pattern TABLE_ROW = Pattern.compile("\\| `(\\w+)\\(([^()]*)\\)` \\| .+ \\|");

    private final Map<String, Integer> kept = new HashMap<>();
    private FurrowTalk talk;

    private ReadmeTest() {
    }

    public static void main(String[] args) throws IOException, IllegalAccessException {
        List<String> lines = Files.readAllLines(README);
        new ReadmeTest().runExamples(lines);
        tablesHaveEachCall(lines);
        String page = String.join("\n", lines);
        testsAreNamed(page);
        Checks.due("README.md tells of .ci/run, which can be run",
            page.contains("\n.ci/run\n") && Files.isExecutable(Path.of(".ci/run")) ? 1 : 0, 1);
        Checks.end();
    }

    private void runExamples(List<String> lines) throws IllegalAccessException {
        boolean inExample = false;
        int examples = 0;
        for (String line : lines) {
            if (line.startsWith("```")) {
                inExample = line.equals("```java");
                examples += inExample ? 1 : 0;
                talk = null;
                kept.clear();
            } else if (inExample) {
                runLine(line);
            }
        }
        Checks.due("README.md has examples", examples > 0 ? 1 : 0, 1);
    }

    private void runLine(String line) throws IllegalAccessException {
        if (line.equals(NEW_OBJECT)) {
            talk = new FurrowTalk();
            return;
        }
        Matcher call = CALL.matcher(line);
        boolean isCall = talk != null && call.matches();
        Checks.due("is a call with its answer: " + line, isCall ? 1 : 0, 1);
        if (isCall) {
            int answer = answer(line, call.group(2), call.group(3));
            Checks.due(line, answer, Long.parseLong(call.group(4)));
            if (call.group(1) != null) {
                kept.put(call.group(1), answer);
            }
        }
    }

    private int answer(String line, String name, String arguments) throws IllegalAccessException {
        Method act = actNamed(name);
        String[] given = split(arguments);
        if (act == null || act.getParameterCount() != given.length) {
            Checks.due("the class has the call of: " + line, 0, 1);
            return 0;
        }
        Object[] values = new Object[given.length];
        for (int i = 0; i < given.length; i++) {
            boolean isLong = act.getParameterTypes()[i] == long.class;
            values[i] = isLong ? (Object) number(given[i]) : (Object) (int) number(given[i]);
        }
        try {
            return (int) act.invoke(talk, values);
        } catch (InvocationTargetException e) {
            Checks.due(line + " threw " + e.getCause(), 0, 1);
            return 0;
        }
    }

    private long number(String written) {
        return kept.containsKey(written) ? kept.get(written) : Long.decode(written.replaceFirst("L$", ""));
    }

    private static Method actNamed(String name) {
        for (Method act : FurrowTalk.class.getDeclaredMethods()) {
            if (Modifier.isPublic(act.getModifiers()) && act.getName().equals(name)) {
                return act;
            }
        }
        return null;
    }

    private static String[] split(String arguments) {
        return arguments.isEmpty() ? new String[0] : arguments.split(", ");
    }

    private static void tablesHaveEachCall(List<String> lines) {
        Map<String, Integer> told = new HashMap<>();
        for (String line : lines) {
            Matcher row = TABLE_ROW.matcher(line);
            if (row.matches()) {
                Checks.due("a call stands in one row: " + row.group(1), told.containsKey(row.group(1)) ? 1 : 0, 0);
                told.put(row.group(1), split(row.group(2)).length);
            }
        }
        int acts = 0;
        for (Method act : FurrowTalk.class.getDeclaredMethods()) {
            if (Modifier.isPublic(act.getModifiers())) {
                acts++;
                Checks.due("how many numbers README.md gives to " + act.getName(),
                    told.getOrDefault(act.getName(), -1), act.getParameterCount());
            }
        }
        Checks.due("how many calls README.md tells of", told.size(), acts);
    }

    private static void testsAreNamed(String page) throws IOException {
        try (DirectoryStream<Path> files = Files.newDirectoryStream(TESTS, "*.java")) {
            for (Path file : files) {
                String name = file.getFileName().toString().replace(".java", "");
                Checks.due("README.md names " + name, Pattern.compile("\\b" + name + "\\b").matcher(page).find() ? 1 : 0,
                    1);
            }
        }
    }
}
