import java.lang.reflect.InvocationTargetException;
import java.lang.reflect.Method;
import java.lang.reflect.Modifier;
import java.util.ArrayList;
import java.util.Comparator;
import java.util.List;

/** Runs a test's cases: its static methods that are not private and take a Check alone. */
final class Cases {
    private Cases() {
    }

    static void run(Class<?> test) throws IllegalAccessException {
        List<Method> cases = casesOf(test);
        int failed = cases.isEmpty() ? 1 : 0;
        for (Method method : cases) {
            failed += holds(test, method) ? 0 : 1;
        }
        System.out.println(cases.size() + " cases, " + failed + " failed");
        if (failed != 0) {
            System.exit(1);
        }
    }

    private static List<Method> casesOf(Class<?> test) {
        List<Method> cases = new ArrayList<>();
        for (Method method : test.getDeclaredMethods()) {
            Class<?>[] parameters = method.getParameterTypes();
            boolean seen = Modifier.isStatic(method.getModifiers()) && !Modifier.isPrivate(method.getModifiers());
            if (seen && parameters.length == 1 && parameters[0] == Check.class) {
                cases.add(method);
            }
        }
        cases.sort(Comparator.comparing(Method::getName));
        return cases;
    }

    private static boolean holds(Class<?> test, Method method) throws IllegalAccessException {
        Check check = new Check(test.getSimpleName() + ", " + method.getName() + ": ");
        try {
            method.invoke(null, check);
        } catch (InvocationTargetException thrown) {
            check.wrong("thrown: " + thrown.getCause());
        }
        return !check.failed();
    }
}
