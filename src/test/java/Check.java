import java.lang.reflect.InvocationTargetException;
import java.lang.reflect.Method;
import java.util.Arrays;
import java.util.Comparator;

/** Counts and prints the answers that are not as due; a test ends with finish. */
final class Check {
    interface Call {
        Object answer();
    }

    private static int checks = 0;
    private static int wrong = 0;

    private Check() {
    }

    /** The answer of a call, or the plain name of the exception that it throws. */
    static Object outcome(Call call) {
        try {
            return call.answer();
        } catch (RuntimeException e) {
            return e.getClass().getSimpleName();
        }
    }

    static void due(String what, Object due, Call call) {
        same(what, due, outcome(call));
    }

    static void same(String what, Object due, Object got) {
        checks++;
        if (!due.equals(got)) {
            wrong++;
            System.out.println(what + " answered " + got + ", due is " + due);
        }
    }

    static int wrongAnswers() {
        return wrong;
    }

    /** Runs every test of the class: a void method without parameters; so none is forgotten. */
    static void runAll(Class<?> tests) throws ReflectiveOperationException {
        Method[] methods = tests.getDeclaredMethods();
        Arrays.sort(methods, Comparator.comparing(Method::getName));
        int ran = 0;
        for (Method method : methods) {
            if (isTest(method)) {
                run(method);
                ran++;
            }
        }
        System.out.print(ran + " tests, ");
        finish();
    }

    private static boolean isTest(Method method) {
        return method.getParameterCount() == 0 && method.getReturnType() == void.class
                && !method.isSynthetic();
    }

    private static void run(Method test) throws IllegalAccessException {
        int checksBefore = checks;
        try {
            test.setAccessible(true);
            test.invoke(null);
        } catch (InvocationTargetException e) {
            same(test.getName(), "no exception", String.valueOf(e.getCause()));
        }
        same(test.getName() + " checks something", true, checks > checksBefore);
    }

    static void finish() {
        System.out.println(checks + " checks, " + wrong + " wrong");
        if (wrong != 0) {
            System.exit(1);
        }
    }
}
