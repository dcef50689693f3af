/** Counts the answers that are not as due, and prints each. */
final class Checks {
    interface Call {
        Object run();
    }

    private int made;
    private int wrong;

    void due(String call, Object got, Object want) {
        made++;
        if (!got.equals(want)) {
            wrong++;
            System.out.println(call + " answered " + got + ", due is " + want);
        }
    }

    void finish(String test) {
        System.out.println(test + ": " + made + " checks, " + wrong + " wrong");
        if (wrong != 0) {
            System.exit(1);
        }
    }

    /** What a call answers, or the simple name of what it throws, told apart if it is not its own. */
    static Object outcome(Call run) {
        try {
            return run.run();
        } catch (RuntimeException thrown) {
            String name = thrown.getClass().getSimpleName();
            StackTraceElement[] trace = thrown.getStackTrace();
            boolean isOwn = trace.length > 0 && trace[0].getClassName().startsWith("CourseForge");
            return isOwn ? name : name + " of the machine or the library";
        }
    }
}
