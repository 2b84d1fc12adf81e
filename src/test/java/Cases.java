import java.lang.reflect.InvocationTargetException;
import java.lang.reflect.Method;
import java.lang.reflect.Modifier;
import java.util.Arrays;
import java.util.Comparator;

/** Runs the cases of an edge test: its static methods without a parameter, each by its name. */
final class Cases {
    private Cases() {
    }

    static void run(Class<?> test) {
        Method[] methods = test.getDeclaredMethods();
        // Java tells the methods in no promised order.
        Arrays.sort(methods, Comparator.comparing(Method::getName));
        int cases = 0;
        for (Method method : methods) {
            if (Modifier.isStatic(method.getModifiers()) && method.getParameterCount() == 0) {
                cases++;
                run(method);
            }
        }
        Due.begin(test.getName());
        Due.is("has a case", cases > 0, true);
        Due.end(test.getName() + ", " + cases + " cases");
    }

    private static void run(Method one) {
        Due.begin(one.getName());
        int before = Due.asked();
        try {
            one.setAccessible(true);
            one.invoke(null);
        } catch (InvocationTargetException | IllegalAccessException e) {
            Due.is("threw " + e.getCause(), true, false);
        }
        // A case whose loop never turns would pass whatever the class does.
        Due.is("asked something", Due.asked() > before, true);
    }
}
