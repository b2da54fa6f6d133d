import java.lang.reflect.InvocationTargetException;
import java.lang.reflect.Method;
import java.util.Arrays;
import java.util.Comparator;

/**
 * Runs the cases of a test: its static methods whose names begin with "promise" or "terms". A name tells the promise
 * (or the part of the document's 'Terms'), then the case: promise07_colourNIsBad.
 */
final class Cases {
    private Cases() {
    }

    static void runAll(Class<?> test) throws IllegalAccessException {
        Method[] all = test.getDeclaredMethods();
        // The order of reflection is free, the order of the cases must not be.
        Arrays.sort(all, Comparator.comparing(Method::getName));
        int cases = 0;
        for (Method m : all) {
            if (m.getName().startsWith("promise") || m.getName().startsWith("terms")) {
                run(m);
                cases++;
            }
        }
        System.out.print(cases + " cases, ");
        Due.end();
    }

    private static void run(Method m) throws IllegalAccessException {
        int asked = Due.asked();
        int wrong = Due.wrong();
        Due.begin(m.getName());
        try {
            m.invoke(null);
        } catch (InvocationTargetException e) {
            Due.fail("threw " + e.getCause());
        }
        if (Due.asked() == asked) {
            Due.fail("asked nothing");
        }
        if (Due.wrong() != wrong) {
            System.out.println("FAILED: " + m.getName());
        }
    }
}
