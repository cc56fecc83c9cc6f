import java.lang.reflect.InvocationTargetException;
import java.lang.reflect.Method;
import java.lang.reflect.Modifier;
import java.util.Arrays;
import java.util.Comparator;

/** Counts the answers that are not as due, and ends the program with 1 if there was one. */
final class CheckHelper {
    interface Call {
        long answer();
    }

    /** A call with one argument that is tried out. */
    interface CallOf {
        long answer(int argument);
    }

    private static int checks = 0;
    private static int wrong = 0;

    private CheckHelper() {
    }

    /** Runs every private method of the class that takes and answers nothing, so that no test is forgotten. */
    static void runAll(Class<?> tests) {
        Method[] methods = tests.getDeclaredMethods();
        Arrays.sort(methods, Comparator.comparing(Method::getName));
        int run = 0;
        for (Method m : methods) {
            if (Modifier.isPrivate(m.getModifiers()) && m.getParameterCount() == 0
                    && m.getReturnType() == void.class && !m.isSynthetic()) {
                runOne(m);
                run++;
            }
        }
        if (run == 0) {
            tellWrong("no tests in " + tests.getName());
        }
        System.out.print(run + " tests, ");
        end();
    }

    private static void runOne(Method m) {
        int wrongBefore = wrong;
        try {
            m.setAccessible(true);
            m.invoke(null);
        } catch (InvocationTargetException e) {
            tellWrong("threw " + e.getCause());
        } catch (IllegalAccessException e) {
            tellWrong("cannot be run: " + e);
        }
        if (wrong > wrongBefore) {
            System.out.println("-- in " + m.getName());
        }
    }

    static void due(String told, long want, Call call) {
        checks++;
        try {
            long got = call.answer();
            if (got != want) {
                tellWrong(told + " answered " + got + ", due is " + want);
            }
        } catch (RuntimeException e) {
            tellWrong(told + " threw " + e + ", due is " + want);
        }
    }

    static void dueDouble(String told, double want, double got) {
        checks++;
        if (got != want) {
            tellWrong(told + " answered " + got + ", due is " + want);
        }
    }

    /** Just outside of low to high, and far outside: IndexOutOfBoundsException. */
    static void dueIndexOutside(String told, ThimbleSwap x, int low, int high, CallOf call) {
        for (int n : outside(low, high)) {
            dueIndex(told + " " + n, x, () -> call.answer(n));
        }
    }

    /** Just outside of low to high, and far outside: IllegalArgumentException. */
    static void dueArgumentOutside(String told, ThimbleSwap x, int low, int high, CallOf call) {
        for (int n : outside(low, high)) {
            dueArgument(told + " " + n, x, () -> call.answer(n));
        }
    }

    /** The two at 256 and 65536 would be inside if only the lower bits were looked at. */
    private static int[] outside(int low, int high) {
        return new int[] {low - 1, high + 1, Integer.MIN_VALUE, Integer.MAX_VALUE, low + 256, low + 65536};
    }

    static void dueIndex(String told, ThimbleSwap x, Call call) {
        dueThrow(told, IndexOutOfBoundsException.class, x, call);
    }

    static void dueArgument(String told, ThimbleSwap x, Call call) {
        dueThrow(told, IllegalArgumentException.class, x, call);
    }

    static void dueState(String told, ThimbleSwap x, Call call) {
        dueThrow(told, IllegalStateException.class, x, call);
    }

    /** The exact class is compared: an exception of the machine's own is a class below the due one. */
    private static void dueThrow(String told, Class<?> want, ThimbleSwap x, Call call) {
        checks++;
        long before = x.digest();
        try {
            long got = call.answer();
            tellWrong(told + " answered " + got + ", due is " + want.getName());
        } catch (RuntimeException e) {
            if (e.getClass() != want) {
                tellWrong(told + " threw " + e + ", due is " + want.getName());
            }
        }
        if (x.digest() != before) {
            tellWrong(told + " threw, but changed something");
        }
    }

    static void tellWrong(String what) {
        wrong++;
        System.out.println(what);
    }

    static void countCheck() {
        checks++;
    }

    static void end() {
        System.out.println(checks + " checks, " + wrong + " wrong");
        if (wrong != 0) {
            System.exit(1);
        }
    }
}
