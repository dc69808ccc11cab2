import java.lang.reflect.InvocationTargetException;
import java.lang.reflect.Method;
import java.util.ArrayList;
import java.util.Comparator;
import java.util.List;

/** Runs the tests of a class that stand for words of the document, each with answers of its own. */
final class Sentences {
    private Sentences() {
    }

    /** The Java machine tells methods in no order, so they are sorted by their names. */
    static List<Method> of(Class<?> test) {
        List<Method> methods = new ArrayList<>();
        for (Method method : test.getDeclaredMethods()) {
            if (method.isAnnotationPresent(Says.class)) {
                methods.add(method);
            }
        }
        methods.sort(Comparator.comparing(Method::getName));
        return methods;
    }

    static void run(Class<?> test) {
        int failed = 0;
        List<Method> methods = of(test);
        for (Method method : methods) {
            if (!holds(method)) {
                failed++;
                System.out.println("FAILED: " + test.getName() + "." + method.getName() + ": "
                        + method.getAnnotation(Says.class).value());
            }
        }
        System.out.println(methods.size() - failed + " of " + methods.size() + " tests hold");
        if (failed != 0 || methods.isEmpty()) {
            System.exit(1);
        }
    }

    static boolean holds(Method method) {
        Due due = new Due();
        try {
            method.invoke(null, due);
        } catch (InvocationTargetException e) {
            due.holds("it ends without " + e.getCause(), false);
        } catch (IllegalAccessException e) {
            throw new IllegalStateException(e);
        }
        return due.isRight();
    }
}
