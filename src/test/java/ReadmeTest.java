import java.lang.reflect.Method;
import java.nio.file.Files;
import java.nio.file.Path;
import java.util.regex.Matcher;
import java.util.regex.Pattern;

/** The example in README.md is true: each call there that has an answer beside it gives that answer. */
public final class ReadmeTest {
    /** A call, its arguments, and what begins the comment behind it. */
    private static final Pattern CALL = Pattern.compile("(?m)^yard\\.(\\w+)\\(([^)]*)\\); *// (-?\\d+|true|false|gone)\\b");

    public static void main(String[] args) throws Exception {
        String example = Files.readString(Path.of("README.md")).replaceAll("(?s).*?```java\n(.*?)```.*", "$1");
        CocoaYard yard = new CocoaYard();
        int calls = 0;
        Matcher line = CALL.matcher(example);
        while (line.find()) {
            calls++;
            Due.due(line.group(), call(yard, line.group(1), line.group(2)).equals(line.group(3)), true);
        }
        Due.due("lines that are not as the others", example.lines().filter(one -> one.startsWith("yard.")).count(), calls);
        Due.due("the example has calls", calls > 0, true);
        Due.finish();
    }

    private static String call(CocoaYard yard, String name, String arguments) throws Exception {
        for (Method method : CocoaYard.class.getMethods()) {
            if (method.getName().equals(name)) {
                Object answer = method.invoke(yard, values(arguments));
                return answer == null ? "gone" : answer.toString();
            }
        }
        return "no such call";
    }

    private static Object[] values(String arguments) {
        if (arguments.isEmpty()) {
            return new Object[0];
        }
        String[] words = arguments.split(", ");
        Object[] values = new Object[words.length];
        for (int i = 0; i < words.length; i++) {
            values[i] = words[i].equals("true") || words[i].equals("false")
                    ? (Object) Boolean.valueOf(words[i]) : (Object) Integer.decode(words[i]);
        }
        return values;
    }
}
