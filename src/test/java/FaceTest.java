import java.lang.reflect.Constructor;
import java.lang.reflect.Field;
import java.lang.reflect.Method;
import java.lang.reflect.Modifier;
import java.util.Arrays;
import java.util.Set;
import java.util.TreeSet;

/** The class shows just the document's face: nothing else that is not private, nothing static that changes. */
public final class FaceTest {
    private static final Due DUE = new Due("the public face");
    private static final Set<String> FACE = new TreeSet<>(Arrays.asList(
        "boolean type(int, char)", "int wipe(int)", "int tailor()", "int entries()", "int entry(int, int)",
        "boolean form(int, boolean, boolean)", "int keyLength(int)", "int keyAt(int, int)", "int compare()",
        "int file(int)", "boolean unfile(int)", "int filed()", "int inOrder(int)", "int below(int)"));

    public static void main(String[] args) {
        Class<?> face = TailoredOrder.class;
        DUE.is("public final", face.getModifiers(), Modifier.PUBLIC | Modifier.FINAL);
        constructors(face);
        methods(face);
        for (Field field : face.getDeclaredFields()) {
            DUE.is(field + " is private", Modifier.isPrivate(field.getModifiers()), true);
        }
        for (Class<?> inside : face.getDeclaredClasses()) {
            int modifiers = inside.getModifiers();
            DUE.is(inside + " is static", Modifier.isStatic(modifiers), true);
            DUE.is(inside + " is hidden", Modifier.isPublic(modifiers) || Modifier.isProtected(modifiers), false);
            staticFields(inside);
        }
        staticFields(face);
        DUE.end();
    }

    private static void constructors(Class<?> face) {
        Constructor<?>[] all = face.getDeclaredConstructors();
        DUE.is("constructors", all.length, 1);
        DUE.is("the constructor", all[0].toString(), "public TailoredOrder()");
    }

    private static void methods(Class<?> face) {
        Set<String> shown = new TreeSet<>();
        Set<String> names = new TreeSet<>();
        for (Method method : face.getDeclaredMethods()) {
            if (!Modifier.isPrivate(method.getModifiers())) {
                DUE.is(method + " is public and no more", method.getModifiers(), Modifier.PUBLIC);
                shown.add(signature(method));
                names.add(method.getName());
            }
        }
        DUE.is("the methods", shown, FACE);
        for (Method method : face.getDeclaredMethods()) {
            if (Modifier.isPrivate(method.getModifiers())) {
                DUE.is(method + " has a name of the face", names.contains(method.getName()), false);
            }
        }
    }

    static String signature(Method method) {
        String types = Arrays.toString(method.getParameterTypes());
        return method.getReturnType() + " " + method.getName() + "(" + types.substring(1, types.length() - 1) + ")";
    }

    private static void staticFields(Class<?> owner) {
        for (Field field : owner.getDeclaredFields()) {
            int modifiers = field.getModifiers();
            if (Modifier.isStatic(modifiers)) {
                DUE.is(field + " is final", Modifier.isFinal(modifiers), true);
            }
        }
    }
}
