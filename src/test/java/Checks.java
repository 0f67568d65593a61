import java.lang.reflect.InvocationTargetException;
import java.lang.reflect.Method;
import java.lang.reflect.Modifier;
import java.util.Arrays;
import java.util.Comparator;

/**
 * What the tests of a single promise go on from: each method of theirs without parameters is a test
 * of its own, and is run by itself.
 */
abstract class Checks {
    static final int NONE = -1;
    static final int INDEX = Answer.INDEX;
    static final int ARGUMENT = Answer.ARGUMENT;
    static final int LEAST = Integer.MIN_VALUE;
    static final int MOST = Integer.MAX_VALUE;

    static final int HEIGHT = 0;
    static final int COLUMNS = 1;
    static final int LETTER = 2;
    static final int SPLIT = 3;
    static final int TURN = 4;

    static void due(int want, int got) {
        if (got != want) {
            throw new AssertionError("answered " + got + ", due is " + want);
        }
    }

    static void due(String want, String got) {
        if (!got.equals(want)) {
            throw new AssertionError("answered " + got + ", due is " + want);
        }
    }

    static void run(Class<?> tests) {
        Method[] methods = tests.getDeclaredMethods();
        Arrays.sort(methods, Comparator.comparing(Method::getName));
        int ran = 0;
        int failed = 0;
        for (Method method : methods) {
            if (isTest(method)) {
                ran++;
                failed += holds(method) ? 0 : 1;
            }
        }
        System.out.println(tests.getSimpleName() + ": " + ran + " tests, " + failed + " fail");
        if (failed > 0 || ran == 0) {
            System.exit(1);
        }
    }

    private static boolean isTest(Method method) {
        return !Modifier.isPrivate(method.getModifiers()) && !method.isSynthetic()
            && method.getParameterCount() == 0;
    }

    private static boolean holds(Method method) {
        try {
            method.invoke(null);
            return true;
        } catch (InvocationTargetException e) {
            tell(method, e.getCause());
        } catch (IllegalAccessException e) {
            tell(method, e);
        }
        return false;
    }

    private static void tell(Method method, Throwable why) {
        String test = method.getDeclaringClass().getSimpleName() + "." + method.getName();
        int line = 0;
        for (StackTraceElement at : why.getStackTrace()) {
            if (at.getClassName().equals(method.getDeclaringClass().getName())
                && at.getMethodName().equals(method.getName())) {
                line = at.getLineNumber();
            }
        }
        System.out.println(test + ", line " + line + ": " + why.getMessage());
    }
}
