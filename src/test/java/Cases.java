import java.lang.reflect.InvocationTargetException;
import java.lang.reflect.Method;
import java.lang.reflect.Modifier;
import java.util.Arrays;
import java.util.Comparator;

/**
 * Runs every case of a test class: its static methods whose names begin with a promise
 * (promise04_sender_ninth) or with the terms (terms_ ..), so that none can be forgotten.
 */
final class Cases {
    private Cases() {
    }

    static void run(Class<?> tests, Due due) {
        Method[] methods = tests.getDeclaredMethods();
        Arrays.sort(methods, Comparator.comparing(Method::getName));
        int cases = 0;
        for (Method m : methods) {
            if (!m.getName().matches("(promise\\d\\d|terms)_\\w+")) continue;
            due.begin(m.getName());
            due.holds("a case without parameters", Modifier.isStatic(m.getModifiers()) && m.getParameterCount() == 0);
            runOne(m, due);
            cases++;
        }
        due.begin(tests.getName());
        due.holds("there are cases", cases > 0);
        System.out.println(cases + " cases");
        due.end();
    }

    private static void runOne(Method m, Due due) {
        try {
            m.setAccessible(true);
            m.invoke(null);
        } catch (InvocationTargetException e) {
            due.holds("to end without " + e.getCause(), false);
            e.getCause().printStackTrace(System.out);
        } catch (IllegalAccessException e) {
            due.holds("to be called", false);
        }
    }
}
