import java.lang.reflect.InvocationTargetException;
import java.lang.reflect.Method;
import java.util.Arrays;
import java.util.Comparator;

/** Runs every method of a class that says which words of the document it is for: none can be written and then forgotten. */
final class Edges {
    private Edges() {
    }

    static void run(Class<?> tests) {
        Method[] methods = tests.getDeclaredMethods();
        Arrays.sort(methods, Comparator.comparing(Method::getName));
        int run = 0;
        for (Method test : methods) {
            if (test.isAnnotationPresent(Says.class)) {
                runOne(test);
                run++;
            }
        }
        System.out.println(run + " tests");
        Check.close();
    }

    private static void runOne(Method test) {
        int wrongAhead = Check.wrong();
        int madeAhead = Check.made();
        try {
            test.setAccessible(true);
            test.invoke(null);
        } catch (InvocationTargetException e) {
            Check.is(test.getName() + " ends without " + e.getCause(), false);
        } catch (IllegalAccessException e) {
            Check.is(test.getName() + " can be called", false);
        }
        Check.is(test.getName() + " compares something", Check.made() > madeAhead);
        if (Check.wrong() > wrongAhead) {
            System.out.println("  in " + test.getName() + ": \"" + test.getAnnotation(Says.class).value() + "\"");
        }
    }
}
