import java.lang.reflect.InvocationTargetException;
import java.lang.reflect.Method;
import java.lang.reflect.Modifier;
import java.util.Arrays;
import java.util.Comparator;
import java.util.List;

/** Finds the cases of a test class and runs each on a new object. */
final class Cases {
    private Cases() {
    }

    /** A case is what is told to hold words of the document; the other methods help. */
    static List<Method> of(Class<?> test) {
        return Arrays.stream(test.getDeclaredMethods())
                .filter(m -> m.isAnnotationPresent(Says.class))
                .sorted(Comparator.comparing(Method::getName))
                .toList();
    }

    static void run(Class<?> test) throws IllegalAccessException, InvocationTargetException {
        Checks checks = new Checks();
        for (Method method : of(test)) {
            String words = method.getAnnotation(Says.class).value();
            String about = test.getSimpleName() + "." + method.getName() + " (" + words + ")";
            int before = checks.seen();
            method.invoke(null, new Run(checks, about));
            checks.due(about + ": asks something", checks.seen() > before ? "yes" : "no", "yes");
        }
        checkNoneIsForgotten(checks, test);
        checks.end();
    }

    private static void checkNoneIsForgotten(Checks checks, Class<?> test) {
        for (Method method : test.getDeclaredMethods()) {
            boolean helps = Modifier.isPrivate(method.getModifiers());
            boolean runs = method.isAnnotationPresent(Says.class);
            if (!helps && !runs && !method.getName().equals("main")) {
                checks.due(test.getSimpleName() + "." + method.getName(), "no words", "some");
            }
        }
    }
}
