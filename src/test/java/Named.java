import java.lang.reflect.InvocationTargetException;
import java.lang.reflect.Method;
import java.lang.reflect.Modifier;
import java.util.Map;
import java.util.TreeMap;

/** Runs the tests of a class by name: its static methods that take and give nothing. */
final class Named {
    private Named() {
    }

    static void run(Class<?> tests, Checks checks) {
        Map<String, Method> byName = new TreeMap<>();
        for (Method method : tests.getDeclaredMethods()) {
            boolean plain = Modifier.isStatic(method.getModifiers()) && !method.isSynthetic();
            if (plain && method.getParameterCount() == 0 && method.getReturnType() == void.class) {
                byName.put(method.getName(), method);
            }
        }
        for (Map.Entry<String, Method> one : byName.entrySet()) {
            runOne(one.getKey(), one.getValue(), checks);
        }
        System.out.println(tests.getName() + ": " + byName.size() + " tests");
        checks.end();
    }

    private static void runOne(String name, Method test, Checks checks) {
        checks.begin(name);
        int before = checks.made();
        try {
            test.setAccessible(true);
            test.invoke(null);
        } catch (InvocationTargetException | IllegalAccessException e) {
            checks.sure("ends without " + (e.getCause() == null ? e : e.getCause()), false);
        }
        checks.sure("checks something", checks.made() > before);
    }
}
