import java.lang.reflect.Field;
import java.lang.reflect.Method;
import java.lang.reflect.Modifier;
import java.util.Arrays;
import java.util.Set;
import java.util.TreeSet;

/** The class has the document's face and no other member that others can see. */
public final class FaceTest {
    private static final Set<String> METHODS = Set.of(
            "int unpack[int, long, long] throws IndexOutOfBoundsException",
            "boolean canonical[int, long, long] throws IndexOutOfBoundsException",
            "boolean put[int, boolean, int, long, long]",
            "boolean pack[int] throws IndexOutOfBoundsException",
            "long pattern[boolean]",
            "int look[int]",
            "long part[boolean]",
            "int digits[int]",
            "int declet[int]");
    private static final Set<String> NAMES = Set.of("unpack", "canonical", "put", "pack", "pattern",
            "look", "part", "digits", "declet");

    public static void main(String[] args) {
        Class<?> face = PatternBook.class;
        Due.is("modifiers", face.getModifiers(), Modifier.PUBLIC | Modifier.FINAL);
        Due.is("NONE", PatternBook.NONE, -1);
        methods(face);
        fields(face);
        Due.is("constructors", face.getDeclaredConstructors().length, 1);
        Due.is("public constructors", face.getConstructors().length, 1);
        Due.is("its parameters", face.getConstructors()[0].getParameterCount(), 0);
        for (Class<?> inside : face.getDeclaredClasses()) {
            inside(inside);
        }
        Due.end("FaceTest");
    }

    private static void methods(Class<?> face) {
        Set<String> seen = new TreeSet<>();
        for (Method method : face.getDeclaredMethods()) {
            if (Modifier.isPrivate(method.getModifiers())) {
                Due.is("private " + method.getName(), NAMES.contains(method.getName()), false);
                continue;
            }
            seen.add(told(method));
            Due.is(method + " modifiers", method.getModifiers(), Modifier.PUBLIC);
        }
        Due.is("methods " + seen, seen.equals(METHODS), true);
    }

    private static String told(Method method) {
        String text = method.getReturnType() + " " + method.getName()
                + Arrays.toString(method.getParameterTypes());
        for (Class<?> thrown : method.getExceptionTypes()) {
            text += " throws " + thrown.getSimpleName();
        }
        return text;
    }

    private static void fields(Class<?> face) {
        int visible = 0;
        for (Field field : face.getDeclaredFields()) {
            if (!Modifier.isPrivate(field.getModifiers())) {
                visible++;
                Due.is(field + " is NONE", field.getName().equals("NONE"), true);
                Due.is(field + " modifiers", field.getModifiers(),
                        Modifier.PUBLIC | Modifier.STATIC | Modifier.FINAL);
            }
        }
        Due.is("visible fields", visible, 1);
    }

    private static void inside(Class<?> inside) {
        int modifiers = inside.getModifiers();
        Due.is(inside + " is static", Modifier.isStatic(modifiers), true);
        Due.is(inside + " is seen", Modifier.isPublic(modifiers) || Modifier.isProtected(modifiers), false);
        for (Field field : inside.getDeclaredFields()) {
            boolean changing = Modifier.isStatic(field.getModifiers())
                    && !Modifier.isFinal(field.getModifiers());
            Due.is(field + " is static and not final", changing, false);
        }
    }
}
