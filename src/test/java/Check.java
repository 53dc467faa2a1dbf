import java.lang.reflect.InvocationTargetException;
import java.lang.reflect.Method;
import java.util.Map;
import java.util.TreeMap;

/** Counts the answers that are not as due. */
final class Check {
    static final Class<IndexOutOfBoundsException> BOUNDS = IndexOutOfBoundsException.class;
    static final Class<IllegalArgumentException> ARGUMENT = IllegalArgumentException.class;
    static final Class<IllegalStateException> STATE = IllegalStateException.class;

    private static int wrong = 0;
    private static String test = "";

    private Check() {
    }

    static void same(String what, long got, long due) {
        if (got != due) {
            complain(what + " answered " + got + ", due is " + due);
        }
    }

    /** The call must throw an exception of exactly this class. */
    static void fails(String what, Class<? extends RuntimeException> due, Runnable call) {
        Class<?> got = null;
        try {
            call.run();
        } catch (RuntimeException e) {
            got = e.getClass();
        }
        if (got != due) {
            complain(what + " threw " + got + ", due is " + due);
        }
    }

    private static void complain(String what) {
        wrong++;
        System.out.println(test + what);
    }

    /**
     * Runs all methods of a class that are named after a promise ("promise7Ears"), so that none can
     * be forgotten, and looks whether each of the promises has one.
     */
    static void promises(int first, int last, Class<?> tests) {
        Map<String, Method> byName = new TreeMap<>();
        for (Method method : tests.getDeclaredMethods()) {
            if (method.getName().matches("promise\\d+[A-Z].*")) {
                byName.put(method.getName(), method);
            }
        }
        for (int number = first; number <= last; number++) {
            String start = "promise" + number + "[A-Z].*";
            boolean isTested = byName.keySet().stream().anyMatch(name -> name.matches(start));
            same("promise " + number + " has a test", isTested ? 1 : 0, 1);
        }
        for (Method method : byName.values()) {
            test = method.getName() + ": ";
            run(method);
        }
        test = "";
        finish();
    }

    private static void run(Method method) {
        method.setAccessible(true);
        try {
            method.invoke(null);
        } catch (InvocationTargetException e) {
            complain("threw " + e.getCause());
            e.getCause().printStackTrace(System.out);
        } catch (IllegalAccessException e) {
            complain("cannot be run");
        }
    }

    static void finish() {
        if (wrong > 0) {
            System.out.println(wrong + " answers are not as due");
            System.exit(1);
        }
    }
}
