import java.lang.reflect.InvocationTargetException;
import java.lang.reflect.Method;
import java.lang.reflect.Modifier;
import java.util.ArrayList;
import java.util.Comparator;
import java.util.List;

/** What all tests here share: it runs them, compares answers, and ends the test. */
final class Due {
    private static int wrong = 0;
    private static int looked = 0;
    private static String test = "";

    private Due() {
    }

    static void due(String call, long got, long want) {
        looked++;
        if (got != want) {
            wrong++;
            System.out.println(test + call + " answered " + got + ", due is " + want);
        }
    }

    static boolean isAllRight() {
        return wrong == 0;
    }

    /** How many answers have been compared so far. */
    static int looked() {
        return looked;
    }

    /** Runs every method of the class that takes nothing but main, so that none is forgotten, and ends. */
    static void runAll(Class<?> tests) {
        List<Method> methods = new ArrayList<>(List.of(tests.getDeclaredMethods()));
        methods.sort(Comparator.comparing(Method::getName));
        for (Method method : methods) {
            if (Modifier.isStatic(method.getModifiers()) && method.getParameterCount() == 0
                    && method.getReturnType() == void.class && !method.isSynthetic()) {
                run(method);
            }
        }
        end();
    }

    private static void run(Method method) {
        test = method.getName() + ": ";
        int before = looked;
        try {
            method.invoke(null);
        } catch (InvocationTargetException | IllegalAccessException e) {
            wrong++;
            System.out.println(test + "threw " + (e.getCause() == null ? e : e.getCause()));
        }
        if (looked == before) {
            wrong++;
            System.out.println(test + "compared nothing");
        }
    }

    static void end() {
        System.out.println(looked + " answers, " + wrong + " not as due");
        if (wrong != 0 || looked == 0) {
            System.exit(1);
        }
    }
}
