import java.lang.reflect.Field;
import java.lang.reflect.Method;
import java.lang.reflect.Modifier;
import java.util.ArrayList;
import java.util.HashSet;
import java.util.List;
import java.util.Set;

/** The rules 1, 2, 5 and 11 of ../shared/LANGUAGE.md, as far as the compiled class shows them. */
public final class FormTest {
    private static final int MOST_CLASSES = 12;
    private static final int MOST_FIELDS = 20;
    private static final int MOST_PARAMETERS = 7;
    private static final Set<Class<?>> CONSTANTS = Set.of(
        int.class, long.class, boolean.class, char.class, String.class,
        int[].class, long[].class, char[].class, byte[].class);
    private static final Check CHECK = new Check();

    public static void main(String[] args) {
        List<Class<?>> classes = new ArrayList<>(List.of(KinNumbers.class.getDeclaredClasses()));
        for (Class<?> inside : classes) {
            CHECK.due(inside + " is static", Modifier.isStatic(inside.getModifiers()), true);
            CHECK.due(inside + " is not public", Modifier.isPublic(inside.getModifiers()), false);
        }
        classes.add(KinNumbers.class);
        CHECK.due("so many classes are allowed", classes.size() <= MOST_CLASSES, true);
        Set<String> face = faceNames();
        for (Class<?> one : classes) {
            checkFields(one);
            checkMethods(one, face);
        }
        CHECK.end();
    }

    private static Set<String> faceNames() {
        Set<String> names = new HashSet<>();
        for (Method method : KinNumbers.class.getMethods()) {
            names.add(method.getName());
        }
        return names;
    }

    private static void checkFields(Class<?> one) {
        int fields = 0;
        for (Field field : one.getDeclaredFields()) {
            if (Modifier.isStatic(field.getModifiers())) {
                CHECK.due(field + " is final", Modifier.isFinal(field.getModifiers()), true);
                CHECK.due(field + " is a constant", CONSTANTS.contains(field.getType()), true);
            } else {
                fields++;
            }
        }
        CHECK.due("so many fields are allowed in " + one, fields <= MOST_FIELDS, true);
    }

    private static void checkMethods(Class<?> one, Set<String> face) {
        for (Method method : one.getDeclaredMethods()) {
            CHECK.due("so many parameters are allowed in " + method, method.getParameterCount() <= MOST_PARAMETERS, true);
            if (!Modifier.isPublic(method.getModifiers())) {
                CHECK.due(method + " has a name of its own", face.contains(method.getName()), false);
            }
        }
    }
}
