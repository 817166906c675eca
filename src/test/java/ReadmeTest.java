import java.lang.reflect.Method;
import java.lang.reflect.Modifier;
import java.nio.file.Files;
import java.nio.file.Path;
import java.util.regex.Matcher;
import java.util.regex.Pattern;

/** README.md tells the truth: its example answers what it says, and it names every call. */
public final class ReadmeTest {
    private static final Path README = Path.of("README.md");
    private static final Pattern CALL = Pattern.compile("(?m)^x\\.(\\w+)\\(([^)]*)\\);\\s*// (-?\\d+)\\b");

    private static final Check check = new Check();

    public static void main(String[] args) throws Exception {
        String text = Files.readString(README);
        example(text);
        everyCall(text);
        check.end();
    }

    private static void example(String text) throws Exception {
        FieldLeaves x = new FieldLeaves();
        Matcher matcher = CALL.matcher(text);
        int calls = 0;
        while (matcher.find()) {
            long due = Long.parseLong(matcher.group(3));
            check.due(matcher.group(), answer(x, matcher.group(1), matcher.group(2)), due);
            calls++;
        }
        int all = text.split("(?m)^x\\.", -1).length - 1;
        check.due("calls of the example that tell their answer", calls, all);
        check.due("there is an example", calls > 0 ? 1 : 0, 1);
    }

    private static long answer(FieldLeaves x, String name, String told) throws Exception {
        String[] words = told.isEmpty() ? new String[0] : told.split(",\\s*");
        for (Method method : FieldLeaves.class.getMethods()) {
            if (method.getName().equals(name) && method.getParameterCount() == words.length) {
                Object[] given = new Object[words.length];
                for (int i = 0; i < words.length; i++) {
                    boolean isLong = method.getParameterTypes()[i] == long.class;
                    given[i] = isLong ? (Object) Long.valueOf(words[i]) : Integer.valueOf(words[i]);
                }
                return ((Number) method.invoke(x, given)).longValue();
            }
        }
        throw new IllegalStateException("no such call: " + name);
    }

    private static void everyCall(String text) {
        for (Method method : FieldLeaves.class.getDeclaredMethods()) {
            if (Modifier.isPublic(method.getModifiers())) {
                boolean told = text.contains("| `" + method.getName() + "(");
                check.due("told in a table: " + method.getName(), told ? 1 : 0, 1);
            }
        }
    }
}
