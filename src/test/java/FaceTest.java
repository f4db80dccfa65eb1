import java.lang.reflect.Constructor;
import java.lang.reflect.Field;
import java.lang.reflect.Method;
import java.lang.reflect.Modifier;
import java.util.Arrays;
import java.util.Set;
import java.util.TreeSet;

/** The public face of the document, no more and no less, and rule 1 of LANGUAGE.md. */
public final class FaceTest {
    private static final Set<String> METHODS = Set.of(
            "int load(int, int, int)", "int disturb(int, int, int)", "boolean slip(int)", "int pass(int)",
            "int symbol(int)", "boolean aligned(int)", "int frame(int)", "int slot(int, int)",
            "boolean alarm(int)", "int count(int, int)");

    private FaceTest() {
    }

    public static void main(String[] args) {
        Class<?> face = FramedLine.class;
        Due.is("the class", Modifier.toString(face.getModifiers()), "public final");
        Due.is("NONE", FramedLine.NONE, -1);
        lookAtMethods(face);
        for (Field field : face.getDeclaredFields()) {
            boolean told = field.getName().equals("NONE");
            Due.is("the field " + field.getName(), visibility(field.getModifiers()), told ? "public" : "private");
        }
        Due.is("constructors", face.getDeclaredConstructors().length, 1);
        for (Constructor<?> constructor : face.getDeclaredConstructors()) {
            Due.is("the constructor", constructor.toString(), "public FramedLine()");
        }
        for (Class<?> inside : face.getDeclaredClasses()) {
            int modifiers = inside.getModifiers();
            Due.is(inside.getName(), !Modifier.isPublic(modifiers) && !Modifier.isProtected(modifiers), true);
            Due.is(inside.getName() + " static", Modifier.isStatic(modifiers), true);
        }
        Due.end();
    }

    private static void lookAtMethods(Class<?> face) {
        Set<String> names = new TreeSet<>();
        Set<String> told = new TreeSet<>();
        for (Method method : face.getDeclaredMethods()) {
            if (Modifier.isPublic(method.getModifiers())) {
                told.add(headOf(method));
                names.add(method.getName());
            }
        }
        Due.is("the public methods", told, new TreeSet<>(METHODS));
        for (Method method : face.getDeclaredMethods()) {
            if (!Modifier.isPublic(method.getModifiers())) {
                Due.is("the method " + method.getName(), visibility(method.getModifiers()), "private");
                Due.is(method.getName() + " bears a public name", names.contains(method.getName()), false);
            }
        }
        for (Class<?> inside : face.getDeclaredClasses()) {
            for (Method method : inside.getDeclaredMethods()) {
                Due.is(method + " bears a public name", names.contains(method.getName()), false);
            }
        }
    }

    private static String headOf(Method method) {
        String parameters = Arrays.toString(method.getParameterTypes()).replace("[", "(").replace("]", ")");
        return method.getReturnType() + " " + method.getName() + parameters;
    }

    private static String visibility(int modifiers) {
        if (Modifier.isPublic(modifiers)) {
            return "public";
        }
        return Modifier.isPrivate(modifiers) ? "private" : "visible";
    }
}
