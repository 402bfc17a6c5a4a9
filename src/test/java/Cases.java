import java.lang.reflect.InvocationTargetException;
import java.lang.reflect.Method;
import java.util.Map;
import java.util.TreeMap;

/**
 * Runs every static method of a class whose name begins with "promise": each is a test of its own,
 * named after its promise and its case.
 */
final class Cases {
    private Cases() {
    }

    static void run(Class<?> tests) throws IllegalAccessException {
        Map<String, Method> named = new TreeMap<>();
        for (Method method : tests.getDeclaredMethods()) {
            if (method.getName().startsWith("promise")) {
                named.put(method.getName(), method);
            }
        }
        for (Map.Entry<String, Method> test : named.entrySet()) {
            runOne(test.getKey(), test.getValue());
        }
        Expect.begin(tests.getSimpleName());
        Expect.finish(tests.getSimpleName() + ", " + named.size() + " tests");
    }

    private static void runOne(String name, Method test) throws IllegalAccessException {
        Expect.begin(name);
        int before = Expect.looked();
        try {
            test.invoke(null);
        } catch (InvocationTargetException e) {
            Expect.wrong("ended with " + e.getCause());
        }
        if (Expect.looked() == before) {
            Expect.wrong("looked at nothing");
        }
    }
}
