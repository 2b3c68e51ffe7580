import java.lang.reflect.Constructor;
import java.lang.reflect.Field;
import java.lang.reflect.Method;
import java.lang.reflect.Modifier;
import java.util.Set;
import java.util.TreeSet;

/** The public face of the document, whole and nothing beside it. */
public final class FaceTest {
    private static final Set<String> FACE = new TreeSet<>(Set.of(
        "NONE int",
        "KinNumbers(int)",
        "boolean parents(int,int,int)",
        "int ring(int)",
        "boolean told(int,int,int)",
        "boolean lives(int,boolean)",
        "long kin(int,int,int)",
        "long inbred(int,int)",
        "long chance(int,int)",
        "long share(int,int,int)",
        "boolean isForbear(int,int)",
        "int order(int)",
        "boolean mark(int,int,int)",
        "int left(int,int)",
        "long odds(int,int,int)",
        "long like(int,int,int)",
        "int lost(int)",
        "long diverse(int)",
        "int animal(int,int)"));

    public static void main(String[] args) {
        Check check = new Check();
        Class<?> face = KinNumbers.class;
        check.due("public and final", face.getModifiers(), Modifier.PUBLIC | Modifier.FINAL);
        check.due("NONE", KinNumbers.NONE, -1);
        Set<String> seen = seenFrom(face);
        for (String member : FACE) {
            check.due("has " + member, seen.contains(member), true);
        }
        for (String member : seen) {
            check.due("may have " + member, FACE.contains(member), true);
        }
        check.end();
    }

    private static Set<String> seenFrom(Class<?> face) {
        Set<String> seen = new TreeSet<>();
        for (Field field : face.getDeclaredFields()) {
            if (!Modifier.isPrivate(field.getModifiers())) {
                seen.add(field.getName() + " " + field.getType());
            }
        }
        for (Constructor<?> made : face.getDeclaredConstructors()) {
            if (!Modifier.isPrivate(made.getModifiers())) {
                seen.add(face.getName() + types(made.getParameterTypes()));
            }
        }
        for (Method method : face.getDeclaredMethods()) {
            if (!Modifier.isPrivate(method.getModifiers())) {
                seen.add(method.getReturnType() + " " + method.getName() + types(method.getParameterTypes()));
            }
        }
        return seen;
    }

    private static String types(Class<?>[] types) {
        StringBuilder text = new StringBuilder("(");
        for (Class<?> type : types) {
            text.append(text.length() > 1 ? "," : "").append(type);
        }
        return text.append(")").toString();
    }
}
