import java.io.IOException;
import java.lang.reflect.Method;
import java.nio.file.Files;
import java.nio.file.Path;
import java.util.List;
import java.util.Map;
import java.util.TreeSet;
import java.util.regex.Matcher;
import java.util.regex.Pattern;
import java.util.stream.Collectors;
import java.util.stream.Stream;

/** README.md: its examples answer as it says, and its table names every test. Run from the project's root. */
public final class ReadmeTest {
    private static final Rows ROWS = new Rows();
    private static final Pattern CALL = Pattern.compile("core\\.(\\w+)\\((.*?)\\); +// (\\w+|-1)(:.*)?");
    private static final Pattern TEST = Pattern.compile("`(\\w+Test)`");
    private static final Map<String, Integer> WORDS = Map.of("true", 1, "false", 0, "nothing", 0);

    public static void main(String[] args) throws ReflectiveOperationException, IOException {
        String text = Files.readString(Path.of("README.md"));
        examples(text.lines().toList());
        tableNamesEveryTest(text);
        ROWS.end();
    }

    private static void examples(List<String> lines) throws ReflectiveOperationException {
        WideCore core = null;
        TreeSet<String> shown = new TreeSet<>();
        for (String line : lines) {
            if (line.startsWith("WideCore core = ")) {
                core = new WideCore();
            } else if (line.startsWith("core.")) {
                Matcher call = CALL.matcher(line);
                ROWS.due("README says the answer: " + line, call.matches(), true);
                ROWS.due("README: " + line, answer(core, call.group(1), call.group(2)), number(call.group(3)));
                shown.add(call.group(1));
            }
        }
        ROWS.due("README shows every call, and shows " + shown, shown.size(), 12);
    }

    private static int answer(WideCore core, String name, String written) throws ReflectiveOperationException {
        List<String> parts = written.isEmpty() ? List.of() : List.of(written.split(", "));
        for (Method method : WideCore.class.getMethods()) {
            if (method.getName().equals(name) && method.getParameterCount() == parts.size()) {
                Object[] values = new Object[parts.size()];
                for (int i = 0; i < values.length; i++) {
                    boolean flag = method.getParameterTypes()[i] == boolean.class;
                    values[i] = flag ? (Object) (number(parts.get(i)) != 0) : (Object) number(parts.get(i));
                }
                Object got = method.invoke(core, values);
                return got == null ? 0 : number(got.toString());
            }
        }
        throw new IllegalArgumentException("no such call: " + name);
    }

    private static int number(String written) {
        return WORDS.containsKey(written) ? WORDS.get(written) : Integer.decode(written);
    }

    private static void tableNamesEveryTest(String text) throws IOException {
        TreeSet<String> named = new TreeSet<>();
        for (Matcher test = TEST.matcher(text); test.find();) {
            named.add(test.group(1));
        }
        try (Stream<Path> files = Files.list(Path.of("src/test/java"))) {
            TreeSet<String> there = files.map(file -> file.getFileName().toString().replace(".java", ""))
                    .filter(name -> name.endsWith("Test")).collect(Collectors.toCollection(TreeSet::new));
            ROWS.due("README names " + named + ", there are " + there, named.equals(there), true);
        }
    }
}
