import java.lang.reflect.Constructor;
import java.lang.reflect.Field;
import java.lang.reflect.Method;
import java.lang.reflect.Modifier;
import java.util.Arrays;
import java.util.Set;
import java.util.TreeSet;

/** The face of the class: what the document lists, and no more. */
public final class FaceTest {
    public static void main(String[] args) {
        Due due = new Due();
        Set<String> want = new TreeSet<>(Arrays.asList("NONE", "OUTSIDE", "FULL", "KeyFob[]",
                "feed[int, int, int, int, int]", "trim[int]", "send[int]", "out[int]", "keep[int, int]", "touch[]",
                "power[]", "advance[int, int]", "check[]", "forged[int]", "count[int]", "key[int, int, int]"));
        Set<String> seen = new TreeSet<>();
        Set<String> names = new TreeSet<>();
        for (Method method : KeyFob.class.getDeclaredMethods()) {
            if (Modifier.isPublic(method.getModifiers())) {
                names.add(method.getName());
                due.holds(method + " answers an int", method.getReturnType() == int.class);
            }
        }
        for (Method method : KeyFob.class.getDeclaredMethods()) {
            if (!Modifier.isPrivate(method.getModifiers())) {
                seen.add(method.getName() + types(method.getParameterTypes()));
            } else {
                due.holds(method + " has a name of its own", !names.contains(method.getName()));
            }
        }
        for (Field field : KeyFob.class.getDeclaredFields()) {
            if (!Modifier.isPrivate(field.getModifiers())) {
                seen.add(field.getName());
            }
        }
        for (Constructor<?> constructor : KeyFob.class.getDeclaredConstructors()) {
            seen.add("KeyFob" + types(constructor.getParameterTypes()));
        }
        due.holds("the face is " + want + ", seen " + seen, want.equals(seen));
        due.holds("the class is public and final", Modifier.isPublic(KeyFob.class.getModifiers())
                && Modifier.isFinal(KeyFob.class.getModifiers()));
        inside(due);
        due.end();
    }

    private static void inside(Due due) {
        Class<?>[] classes = KeyFob.class.getDeclaredClasses();
        due.holds("there are at most twelve classes", classes.length + 1 <= 12);
        for (Class<?> each : classes) {
            int modifiers = each.getModifiers();
            due.holds(each + " is static and not public", Modifier.isStatic(modifiers)
                    && !Modifier.isPublic(modifiers) && !Modifier.isProtected(modifiers));
            int fields = 0;
            for (Field field : each.getDeclaredFields()) {
                boolean fixed = Modifier.isStatic(field.getModifiers());
                fields += fixed ? 0 : 1;
                due.holds(field + " is final if it is static", !fixed || Modifier.isFinal(field.getModifiers()));
            }
            due.holds(each + " has at most twenty fields", fields <= 20);
            for (Method method : each.getDeclaredMethods()) {
                due.holds(method + " has at most seven parameters", method.getParameterCount() <= 7);
            }
        }
    }

    private static String types(Class<?>[] types) {
        return Arrays.toString(types);
    }
}
