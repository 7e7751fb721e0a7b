import java.lang.reflect.Method;
import java.nio.file.Files;
import java.nio.file.Path;
import java.util.HashMap;
import java.util.Map;
import java.util.regex.Matcher;
import java.util.regex.Pattern;

/** README.md's example is run line by line: each call answers the number that its comment begins with. */
public final class ReadmeTest {
    private static final String FIRST_LINE = "CustomerNotices post = new CustomerNotices();";
    private static final Pattern BLOCK = Pattern.compile("(?s)```java\n(.*?)```");
    private static final Pattern CALL =
        Pattern.compile("(?:int (\\w+) = )?post\\.(\\w+)\\(([^)]*)\\);\\s+// (-?\\d+|true|false)\\b.*");

    private final CustomerNotices post = new CustomerNotices();
    private final Map<String, Object> names = new HashMap<>();

    public static void main(String[] args) throws Exception {
        Check check = new Check();
        Matcher block = BLOCK.matcher(Files.readString(Path.of("README.md")));
        check.due("README.md has an example", block.find(), true);
        String[] lines = block.group(1).split("\n");
        check.due("it begins with a new object", lines[0].equals(FIRST_LINE), true);
        ReadmeTest example = new ReadmeTest();
        for (int k = 1; k < lines.length; k++) {
            example.runLine(check, lines[k]);
        }
        for (Method method : CustomerNotices.class.getMethods()) {
            boolean own = method.getDeclaringClass() == CustomerNotices.class;
            check.due("README.md uses " + method.getName(),
                !own || block.group(1).contains("post." + method.getName() + "("), true);
        }
        check.end();
    }

    private void runLine(Check check, String line) throws ReflectiveOperationException {
        Matcher call = CALL.matcher(line);
        check.due("a call with its answer: " + line, call.matches(), true);
        if (!call.matches()) {
            return;
        }
        Object answer = ask(call.group(2), call.group(3).split(", "));
        check.due(line + " (" + answer + ")", answer.toString().equals(call.group(4)), true);
        if (call.group(1) != null) {
            names.put(call.group(1), answer);
        }
    }

    private Object ask(String name, String[] words) throws ReflectiveOperationException {
        for (Method method : CustomerNotices.class.getMethods()) {
            if (method.getName().equals(name) && method.getParameterCount() == words.length) {
                Object[] given = new Object[words.length];
                for (int k = 0; k < words.length; k++) {
                    given[k] = valueOf(words[k], method.getParameterTypes()[k]);
                }
                return method.invoke(post, given);
            }
        }
        return "no such call";
    }

    private Object valueOf(String word, Class<?> type) {
        if (type == boolean.class) {
            return Boolean.valueOf(word);
        }
        String number = names.containsKey(word) ? names.get(word).toString() : word;
        return type == long.class ? (Object) Long.valueOf(number) : (Object) Integer.valueOf(number);
    }
}
