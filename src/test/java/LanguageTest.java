import java.io.IOException;
import java.lang.reflect.Constructor;
import java.lang.reflect.Field;
import java.lang.reflect.Method;
import java.lang.reflect.Modifier;
import java.nio.file.Files;
import java.nio.file.Path;
import java.util.ArrayList;
import java.util.List;
import java.util.Set;
import java.util.regex.Matcher;
import java.util.regex.Pattern;
import java.util.stream.Stream;

/** The rules of LANGUAGE.md that can be seen in the text or in the members; FaceTest has rule 1. */
public final class LanguageTest {
    private static final Path SOURCES = Path.of("src/main/java");
    private static final Set<Class<?>> CONSTANT_TYPES =
            Set.of(int.class, long.class, boolean.class, char.class, String.class);
    private static final Pattern METHOD =
            Pattern.compile("(?ms)^( +)(?!(?:private )?(?:static )?(?:final )?(?:class|enum) )\\w[^;={}]*\\) *"
                    + "(?:\\s+throws [\\w, ]+)? \\{$.*?^\\1\\}$");

    private LanguageTest() {
    }

    public static void main(String[] args) throws IOException {
        String text = Files.readString(SOURCES.resolve("FramedLine.java"));
        String code = withoutWords(text);
        lookAtFiles();
        lookAtWords(code);
        lookAtMethods(code);
        List<Class<?>> classes = new ArrayList<>(List.of(FramedLine.class.getDeclaredClasses()));
        classes.add(FramedLine.class);
        Due.is("rule 11: at most twelve classes", classes.size() <= 12, true);
        for (Class<?> each : classes) {
            lookAtMembers(each);
        }
        Due.end();
    }

    /** The code without comments and without what stands in texts. */
    private static String withoutWords(String text) {
        return text.replaceAll("(?s)/\\*.*?\\*/", "").replaceAll("//.*", "").replaceAll("\"[^\"]*\"", "\"\"");
    }

    private static void lookAtFiles() throws IOException {
        try (Stream<Path> files = Files.walk(SOURCES)) {
            List<String> names = files.filter(Files::isRegularFile).map(Path::toString).sorted().toList();
            Due.is("one file", names, List.of("src/main/java/FramedLine.java"));
        }
    }

    private static void lookAtWords(String code) {
        none(code, "no package line", "\\bpackage\\b");
        none(code, "rule 2: no lambda, no method reference", "->|::");
        none(code, "rule 3: no doubles, texts or boxes are needed",
                "\\b(double|float|String|StringBuilder|Integer|List|ArrayList)\\b");
        none(code, "rule 4: nothing of the library is needed",
                "\\b(import|java|Math|System|Arrays|Long|Iterator|Iterable|Object)\\b");
        none(code, "rule 5: no static initialiser", "\\bstatic\\s*\\{");
        none(code, "rule 6: words that are ruled out",
                "\\b(try|catch|finally|synchronized|assert|instanceof|equals|hashCode|toString)\\b");
        none(code, "rule 6: a throw is of a new exception of the document",
                "\\bthrow (?!new Illegal(Argument|State)Exception\\(\"?\"?\\);)");
        none(code, "rule 7: no division", "[/%]");
    }

    private static void none(String code, String rule, String pattern) {
        Matcher found = Pattern.compile(pattern).matcher(code);
        Due.is(rule, found.find() ? found.group() : "nothing", "nothing");
    }

    private static void lookAtMethods(String code) {
        Matcher methods = METHOD.matcher(code);
        int seen = 0;
        while (methods.find()) {
            String method = methods.group();
            String head = method.substring(0, method.indexOf('{')).strip();
            seen++;
            Due.is("rule 11: the lines of " + head, method.lines().count() <= 60, true);
            boolean makes = method.replace("throw new", "").contains("new ");
            boolean isConstructor = head.matches("(public )?[A-Z]\\w*\\(\\)");
            Due.is("rule 12: only constructors make objects: " + head, makes && !isConstructor, false);
            Due.is("rule 6: no throw in a constructor: " + head, isConstructor && method.contains("throw"), false);
        }
        Due.is("all methods were seen", seen, declaredMethods());
    }

    private static int declaredMethods() {
        int all = FramedLine.class.getDeclaredConstructors().length;
        for (Method method : FramedLine.class.getDeclaredMethods()) {
            all += method.isSynthetic() ? 0 : 1;
        }
        for (Class<?> inside : FramedLine.class.getDeclaredClasses()) {
            if (!inside.isEnum()) {
                all += inside.getDeclaredConstructors().length + inside.getDeclaredMethods().length;
            }
        }
        return all;
    }

    private static void lookAtMembers(Class<?> each) {
        int fields = 0;
        for (Field field : each.getDeclaredFields()) {
            if (!Modifier.isStatic(field.getModifiers())) {
                fields++;
            } else if (!field.isSynthetic() && !field.isEnumConstant()) {
                Due.is("rule 5: " + field + " is a constant",
                        Modifier.isFinal(field.getModifiers()) && CONSTANT_TYPES.contains(field.getType()), true);
            }
        }
        Due.is("rule 11: at most twenty fields in " + each.getName(), fields <= 20, true);
        for (Method method : each.getDeclaredMethods()) {
            Due.is("rule 11: at most seven parameters: " + method, method.getParameterCount() <= 7, true);
        }
        for (Constructor<?> constructor : each.getDeclaredConstructors()) {
            Due.is("rule 11: at most seven parameters: " + constructor, constructor.getParameterCount() <= 7, true);
        }
    }
}
