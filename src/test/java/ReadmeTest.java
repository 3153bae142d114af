import java.io.IOException;
import java.lang.reflect.Method;
import java.lang.reflect.Modifier;
import java.nio.file.Files;
import java.nio.file.Path;
import java.util.List;
import java.util.regex.Matcher;
import java.util.regex.Pattern;

/** README.md tells how to use the class: its example answers as it says, and its tables name every call. */
public final class ReadmeTest {
    private static final Path README = Path.of("README.md");
    private static final String NEW_OBJECT = "HiddenCandles candles = new HiddenCandles();";
    private static final Pattern EXAMPLE = Pattern.compile("candles\\.(\\w+)\\((.*?)\\); *// ([^:]+): .+");
    private static final Pattern ROW = Pattern.compile("\\| `(\\w+)\\((.*?)\\)` \\|.*");

    private static int wrong = 0;

    public static void main(String[] args) throws IOException, ReflectiveOperationException {
        List<String> lines = Files.readAllLines(README);
        example(lines.subList(lines.indexOf("```java") + 1, lines.lastIndexOf("```")));
        for (Method method : HiddenCandles.class.getDeclaredMethods()) {
            if (Modifier.isPublic(method.getModifiers())) {
                row(lines, method);
            }
        }
        if (wrong > 0) {
            System.exit(1);
        }
    }

    private static void check(boolean holds, String what) {
        if (!holds) {
            wrong++;
            System.out.println("README.md: " + what);
        }
    }

    private static void example(List<String> lines) throws ReflectiveOperationException {
        check(!lines.isEmpty() && lines.get(0).equals(NEW_OBJECT), "the example begins without a new object");
        check(lines.size() > 1, "the example has no calls");
        HiddenCandles candles = new HiddenCandles();
        for (String line : lines.subList(1, lines.size())) {
            Matcher matcher = EXAMPLE.matcher(line);
            if (matcher.matches()) {
                String answer = String.valueOf(call(candles, matcher.group(1), matcher.group(2)));
                check(answer.equals(matcher.group(3)), line + " - but it answered " + answer);
            } else {
                check(false, "not a call with its answer: " + line);
            }
        }
    }

    private static Object call(HiddenCandles candles, String name, String inputs) throws ReflectiveOperationException {
        String[] texts = inputs.isEmpty() ? new String[0] : inputs.split(", ");
        Class<?>[] types = new Class<?>[texts.length];
        Object[] values = new Object[texts.length];
        for (int i = 0; i < texts.length; i++) {
            boolean isFlag = texts[i].equals("true") || texts[i].equals("false");
            types[i] = isFlag ? boolean.class : int.class;
            values[i] = isFlag ? (Object) Boolean.valueOf(texts[i]) : (Object) Integer.valueOf(texts[i]);
        }
        return HiddenCandles.class.getMethod(name, types).invoke(candles, values);
    }

    private static void row(List<String> lines, Method method) {
        int rows = 0;
        for (String line : lines) {
            Matcher matcher = ROW.matcher(line);
            if (matcher.matches() && matcher.group(1).equals(method.getName())) {
                rows++;
                int inputs = matcher.group(2).isEmpty() ? 0 : matcher.group(2).split(", ").length;
                check(inputs == method.getParameterCount(), "other inputs than " + method + " has: " + line);
            }
        }
        check(rows == 1, rows + " rows of " + method);
    }
}
