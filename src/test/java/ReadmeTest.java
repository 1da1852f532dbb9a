import java.io.IOException;
import java.lang.reflect.InvocationTargetException;
import java.lang.reflect.Method;
import java.lang.reflect.Modifier;
import java.nio.charset.StandardCharsets;
import java.nio.file.Files;
import java.nio.file.Path;
import java.util.regex.Matcher;
import java.util.regex.Pattern;

/** The example of README.md: each call answers as is said behind it; run from the project's folder. */
public final class ReadmeTest {
    private static final Pattern CALL = Pattern.compile("hall\\.(\\w+)\\(([^)]*)\\);\\s*// (-?\\d+).*");

    private static int calls;

    public static void main(String[] args) throws IOException {
        String text = Files.readString(Path.of("README.md"), StandardCharsets.UTF_8);
        int start = text.indexOf("```java\n");
        int end = text.indexOf("```\n", start + 1);
        Check.eq("there is an example", start >= 0 && end > start, true);
        Averagehall hall = new Averagehall();
        for (String line : text.substring(start, end).split("\n")) {
            if (line.startsWith("hall.")) {
                follow(hall, line);
            }
        }
        Check.eq("the example has calls", calls > 20, true);
        everyCallIsNamed(text.substring(end));
        Check.end("ReadmeTest");
    }

    private static void follow(Averagehall hall, String line) {
        Matcher call = CALL.matcher(line);
        if (!call.matches()) {
            Check.eq("an answer behind", line, "a call with one");
            return;
        }
        calls++;
        Check.eq(line, Check.outcome(() -> answer(hall, call.group(1), call.group(2))), call.group(3));
    }

    private static Object answer(Averagehall hall, String name, String list) {
        String[] words = list.isEmpty() ? new String[0] : list.split(", ");
        Object[] arguments = new Object[words.length];
        for (int i = 0; i < words.length; i++) {
            arguments[i] = words[i].startsWith("'") ? (Object) words[i].charAt(1)
                    : words[i].matches("-?\\d+") ? (Object) Integer.valueOf(words[i]) : Boolean.valueOf(words[i]);
        }
        for (Method method : Averagehall.class.getMethods()) {
            if (method.getName().equals(name)) {
                return invoke(hall, method, arguments);
            }
        }
        throw new IllegalStateException("no such call");
    }

    private static Object invoke(Averagehall hall, Method method, Object[] arguments) {
        try {
            return method.invoke(hall, arguments);
        } catch (InvocationTargetException e) {
            throw (RuntimeException) e.getCause();
        } catch (IllegalAccessException e) {
            throw new IllegalStateException(e);
        }
    }

    private static void everyCallIsNamed(String text) {
        for (Method method : Averagehall.class.getDeclaredMethods()) {
            if (Modifier.isPublic(method.getModifiers())) {
                Check.eq(method.getName() + " is named", text.contains("`" + method.getName() + "`"), true);
            }
        }
    }
}
