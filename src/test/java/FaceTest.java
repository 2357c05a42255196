import java.lang.reflect.Constructor;
import java.lang.reflect.Field;
import java.lang.reflect.Method;
import java.lang.reflect.Modifier;
import java.util.Arrays;
import java.util.Set;
import java.util.TreeSet;

/** The class shows the document's face and nothing else, and keeps no state that is static. */
public final class FaceTest {
    private static final Set<String> DUE = new TreeSet<>(Arrays.asList(
            "int make(int, int, int)", "int grow(int, int)", "int shrink(int)",
            "boolean number(int, int)", "boolean copy(int, int)", "boolean get(int, int, int)",
            "boolean set(int, int, int)", "int push(int)", "int pop(int)", "int look(int)",
            "int numberIn(int)", "int same(int, int)", "int count(int)"));

    public static void main(String[] args) {
        int modifiers = SliceHeap.class.getModifiers();
        Check.due("public final", Modifier.isPublic(modifiers) && Modifier.isFinal(modifiers), true);
        methods();
        constructors();
        fields(SliceHeap.class);
        for (Class<?> inside : SliceHeap.class.getDeclaredClasses()) {
            Check.due(inside + " is static", Modifier.isStatic(inside.getModifiers()), true);
            Check.due(inside + " is public", Modifier.isPublic(inside.getModifiers()), false);
            fields(inside);
        }
        Check.end();
    }

    private static void methods() {
        Set<String> shown = new TreeSet<>();
        Set<String> names = new TreeSet<>();
        for (Method method : SliceHeap.class.getDeclaredMethods()) {
            if (Modifier.isPublic(method.getModifiers())) {
                shown.add(signature(method));
                names.add(method.getName());
            }
        }
        Check.due("the public methods " + shown + " are those of the document", shown.equals(DUE), true);
        for (Method method : SliceHeap.class.getDeclaredMethods()) {
            if (!Modifier.isPublic(method.getModifiers())) {
                Check.due(method + " is private", Modifier.isPrivate(method.getModifiers()), true);
                Check.due(method + " has a public one's name", names.contains(method.getName()), false);
            }
        }
    }

    private static String signature(Method method) {
        String types = Arrays.toString(method.getParameterTypes());
        return method.getReturnType() + " " + method.getName()
                + "(" + types.substring(1, types.length() - 1) + ")";
    }

    private static void constructors() {
        Constructor<?>[] all = SliceHeap.class.getDeclaredConstructors();
        Check.due("constructors", all.length, 1);
        Check.due("it is public", Modifier.isPublic(all[0].getModifiers()), true);
        Check.due("it takes an int", Arrays.equals(all[0].getParameterTypes(), new Class<?>[] {int.class}), true);
    }

    private static void fields(Class<?> owner) {
        for (Field field : owner.getDeclaredFields()) {
            int modifiers = field.getModifiers();
            Check.due(field + " is private", Modifier.isPrivate(modifiers), true);
            Check.due(field + " is static and changes",
                    Modifier.isStatic(modifiers) && !Modifier.isFinal(modifiers), false);
        }
    }
}
