import java.io.IOException;
import java.lang.reflect.InvocationTargetException;
import java.lang.reflect.Method;
import java.nio.file.Files;
import java.nio.file.Path;
import java.util.regex.Matcher;
import java.util.regex.Pattern;

/** The example of README.md: each call answers what stands behind it; and no call goes unmentioned. */
public final class ReadmeTest {
    private static final Pattern CALL =
            Pattern.compile("line\\.(\\w+)\\(([^)]*)\\); +// (throws )?([-\\w]+)");

    private ReadmeTest() {
    }

    public static void main(String[] args) throws IOException {
        String text = Files.readString(Path.of("README.md"));
        FramedLine line = new FramedLine();
        Matcher calls = CALL.matcher(text);
        while (calls.find()) {
            String due = (calls.group(3) == null ? "" : "throws.") + calls.group(4);
            Due.is(calls.group(), answer(line, calls.group(1), calls.group(2).split(", ")), due);
        }
        for (Method method : FramedLine.class.getMethods()) {
            if (method.getDeclaringClass() == FramedLine.class) {
                Due.is("README.md tells of " + method.getName(), text.contains("| `" + method.getName() + "("), true);
            }
        }
        Due.end();
    }

    private static String answer(FramedLine line, String name, String[] words) {
        Object[] arguments = new Object[words.length];
        Class<?>[] types = new Class<?>[words.length];
        for (int i = 0; i < words.length; i++) {
            arguments[i] = Integer.valueOf(words[i]);
            types[i] = int.class;
        }
        try {
            return String.valueOf(FramedLine.class.getMethod(name, types).invoke(line, arguments));
        } catch (InvocationTargetException e) {
            return "throws." + e.getCause().getClass().getSimpleName();
        } catch (ReflectiveOperationException e) {
            return "no such call";
        }
    }
}
