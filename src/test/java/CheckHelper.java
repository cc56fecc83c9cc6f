/** Counts the answers that are not as due, and ends the program with 1 if there was one. */
final class CheckHelper {
    interface Call {
        long answer();
    }

    private static int checks = 0;
    private static int wrong = 0;

    private CheckHelper() {
    }

    static void due(String told, long want, Call call) {
        checks++;
        try {
            long got = call.answer();
            if (got != want) {
                tellWrong(told + " answered " + got + ", due is " + want);
            }
        } catch (RuntimeException e) {
            tellWrong(told + " threw " + e + ", due is " + want);
        }
    }

    static void dueDouble(String told, double want, double got) {
        checks++;
        if (got != want) {
            tellWrong(told + " answered " + got + ", due is " + want);
        }
    }

    static void dueIndex(String told, ThimbleSwap x, Call call) {
        dueThrow(told, IndexOutOfBoundsException.class, x, call);
    }

    static void dueArgument(String told, ThimbleSwap x, Call call) {
        dueThrow(told, IllegalArgumentException.class, x, call);
    }

    static void dueState(String told, ThimbleSwap x, Call call) {
        dueThrow(told, IllegalStateException.class, x, call);
    }

    /** The exact class is compared: an exception of the machine's own is a class below the due one. */
    private static void dueThrow(String told, Class<?> want, ThimbleSwap x, Call call) {
        checks++;
        long before = x.digest();
        try {
            long got = call.answer();
            tellWrong(told + " answered " + got + ", due is " + want.getName());
        } catch (RuntimeException e) {
            if (e.getClass() != want) {
                tellWrong(told + " threw " + e + ", due is " + want.getName());
            }
        }
        if (x.digest() != before) {
            tellWrong(told + " threw, but changed something");
        }
    }

    static void tellWrong(String what) {
        wrong++;
        System.out.println(what);
    }

    static void countCheck() {
        checks++;
    }

    static void end() {
        System.out.println(checks + " checks, " + wrong + " wrong");
        if (wrong != 0) {
            System.exit(1);
        }
    }
}
