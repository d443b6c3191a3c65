import java.io.IOException;
import java.lang.reflect.Method;
import java.lang.reflect.Modifier;
import java.nio.file.Files;
import java.nio.file.Path;
import java.util.Set;
import java.util.TreeSet;
import java.util.regex.Matcher;
import java.util.regex.Pattern;

/** What README.md says of the class is so: its example's answers, the calls it lists, the tests it names. */
public final class ReadmeTests {
    private static final Pattern TEXT = Pattern.compile("String text = \"([^\"]*)\";");
    private static final Pattern ANSWER = Pattern.compile("sums\\.(\\w+)\\(([-\\d, ]*)\\); *// (-?\\d+)");
    private static final Pattern ROW = Pattern.compile("(?m)^\\| `(\\w+)\\(([\\w, ]*)\\)` \\|");

    private final Due due = new Due();
    private final String page;

    private ReadmeTests(String page) {
        this.page = page;
    }

    public static void main(String[] args) throws ReflectiveOperationException, IOException {
        ReadmeTests tests = new ReadmeTests(Files.readString(Path.of("README.md")));
        tests.exampleAnswersSo();
        tests.listHasEachCall();
        tests.pageNamesEachTest();
        tests.due.end();
    }

    private void exampleAnswersSo() throws ReflectiveOperationException {
        Matcher text = TEXT.matcher(page);
        due.is("the example has a text", text.find() ? 1 : 0, 1);
        GateSums sums = new GateSums();
        Due.type(sums, text.group(1));
        Matcher answer = ANSWER.matcher(page);
        int answers = 0;
        while (answer.find()) {
            answers++;
            long got = call(sums, answer.group(1), parts(answer.group(2)));
            due.is(answer.group(), got, Long.parseLong(answer.group(3)));
        }
        due.is("the example has answers", Math.min(answers, 10), 10);
    }

    private static long call(GateSums sums, String name, String[] numbers) throws ReflectiveOperationException {
        Class<?>[] types = new Class<?>[numbers.length];
        Object[] values = new Object[numbers.length];
        for (int i = 0; i < numbers.length; i++) {
            types[i] = int.class;
            values[i] = Integer.valueOf(numbers[i]);
        }
        return ((Number) GateSums.class.getMethod(name, types).invoke(sums, values)).longValue();
    }

    private static String[] parts(String list) {
        return list.isEmpty() ? new String[0] : list.split(", ");
    }

    private void listHasEachCall() {
        Set<String> listed = new TreeSet<>();
        Matcher row = ROW.matcher(page);
        while (row.find()) {
            listed.add(row.group(1) + "/" + parts(row.group(2)).length);
        }
        Set<String> calls = new TreeSet<>();
        for (Method method : GateSums.class.getDeclaredMethods()) {
            if (Modifier.isPublic(method.getModifiers())) {
                calls.add(method.getName() + "/" + method.getParameterCount());
            }
        }
        due.is("listed " + listed + ", there are " + calls, listed.equals(calls) ? 1 : 0, 1);
    }

    private void pageNamesEachTest() throws IOException {
        try (var files = Files.newDirectoryStream(Path.of("src/test/java"), "*.java")) {
            for (Path file : files) {
                String name = file.getFileName().toString().replace(".java", "");
                due.is("README.md names " + name, page.contains("`" + name + "`") ? 1 : 0, 1);
            }
        }
    }
}
