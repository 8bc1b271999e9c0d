import java.io.IOException;
import java.lang.reflect.Method;
import java.nio.file.Files;
import java.nio.file.Path;
import java.util.regex.Matcher;
import java.util.regex.Pattern;

// Makes the calls that stand in README.md, its argument, in their order, and compares
// their answers with the numbers behind them.
public final class ReadmeTests {
    private static final Pattern TEXT = Pattern.compile("for \\(char c : \"(.*)\"\\.toCharArray\\(\\)\\) \\{");
    private static final Pattern CALL = Pattern.compile("t\\.(\\w+)\\((.*)\\); +// (-?\\d+)(: .*)?");
    private static final String NOT_A_CALL = "```(java|sh)?|PathTracker t = new PathTracker\\(\\);| {4}t\\.type\\(c\\);|\\}";

    public static void main(String[] args) throws IOException, ReflectiveOperationException {
        PathTracker t = new PathTracker();
        int calls = 0;
        boolean code = false;
        for (String line : Files.readAllLines(Path.of(args[0]))) {
            code = line.startsWith("```") ? line.equals("```java") : code;
            Matcher text = TEXT.matcher(line);
            Matcher call = CALL.matcher(line);
            if (code && text.matches()) {
                Due.type(t, text.group(1));
            } else if (code && call.matches()) {
                calls++;
                Due.is(line, answer(t, call.group(1), call.group(2)), Long.parseLong(call.group(3)));
            } else if (code) {
                Due.is("a line of code is known: " + line, line.matches(NOT_A_CALL) ? 1 : 0, 1);
            }
        }
        Due.is("there are calls", calls > 30 ? 1 : 0, 1);
        for (Method method : PathTracker.class.getDeclaredMethods()) {
            boolean named = Files.readString(Path.of(args[0])).contains("t." + method.getName() + "(");
            Due.is("it tells of " + method.getName(), named ? 1 : 0, 1);
        }
        Due.end("ReadmeTests");
    }

    private static int answer(PathTracker t, String name, String arguments) throws ReflectiveOperationException {
        String[] texts = arguments.isEmpty() ? new String[0] : arguments.split(", ");
        Object[] values = new Object[texts.length];
        Class<?>[] types = new Class<?>[texts.length];
        for (int k = 0; k < texts.length; k++) {
            values[k] = texts[k].startsWith("'") ? texts[k].charAt(1) : Integer.parseInt(texts[k]);
            types[k] = int.class;
        }
        return (int) PathTracker.class.getMethod(name, types).invoke(t, values);
    }
}
