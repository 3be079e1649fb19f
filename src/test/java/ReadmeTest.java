import java.io.IOException;
import java.lang.reflect.Method;
import java.nio.file.Files;
import java.nio.file.Path;
import java.util.regex.Matcher;
import java.util.regex.Pattern;

/** The calls that README.md shows, one to a line, answer what it says behind them; its texts are good ones. */
public final class ReadmeTest {
    private static final Pattern EXAMPLE = Pattern.compile("```java\n(.*?)```", Pattern.DOTALL);
    private static final Pattern CALL = Pattern.compile("house\\.(\\w+)\\((.*)\\); +// (-?\\d+): .*");
    private static final Pattern TEXT = Pattern.compile("`((?:put|strike|order) [^`]*)`");
    private static final Check check = new Check();

    public static void main(String[] args) throws IOException, ReflectiveOperationException {
        String readme = Files.readString(Path.of("README.md"));
        Matcher example = EXAMPLE.matcher(readme);
        check.due("README.md has an example", example.find(), true);
        calls(example.group(1));
        Matcher text = TEXT.matcher(readme);
        while (text.find()) {
            check.reads(text.group(1), 0, -1);
        }
        check.end("ReadmeTest");
    }

    private static void calls(String example) throws ReflectiveOperationException {
        AlmsHouse house = new AlmsHouse();
        for (String line : example.split("\n")) {
            Matcher call = CALL.matcher(line);
            if (call.matches()) {
                check.due(line, answer(house, call.group(1), call.group(2)), Integer.parseInt(call.group(3)));
            } else {
                boolean known = line.startsWith("//") || line.equals("AlmsHouse house = new AlmsHouse();");
                check.due("is a call with its answer: " + line, known, true);
            }
        }
    }

    private static int answer(AlmsHouse house, String name, String list) throws ReflectiveOperationException {
        String[] words = list.isEmpty() ? new String[0] : list.split(", ");
        for (Method method : AlmsHouse.class.getMethods()) {
            if (method.getName().equals(name) && method.getParameterCount() == words.length) {
                Object[] arguments = new Object[words.length];
                for (int i = 0; i < words.length; i++) {
                    arguments[i] = argument(words[i], method.getParameterTypes()[i]);
                }
                return (Integer) method.invoke(house, arguments);
            }
        }
        throw new NoSuchMethodException(name);
    }

    private static Object argument(String word, Class<?> type) {
        if (type == boolean.class) {
            return Boolean.valueOf(word);
        }
        return Long.decode(word).intValue();
    }
}
