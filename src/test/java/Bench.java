import java.lang.reflect.InvocationTargetException;
import java.lang.reflect.Method;
import java.util.Map;
import java.util.TreeMap;

/** A CourseForge that is asked by texts such as "addCohort 0 9", and answers by texts. */
final class Bench {
    /** What later calls answer is free, so that no test may look at it. */
    private static final int MOST_CALLS = 512;
    private static final Map<String, Method> FACE = face();

    private final CourseForge forge = new CourseForge();
    private int calls;

    boolean hasCallsLeft() {
        return calls < MOST_CALLS;
    }

    /** Counts its calls on from those of another one, so that both end at the same call. */
    void countFrom(Bench other) {
        calls = other.calls;
    }

    /** The answer of a call, or the name of an exception; or the whole line, a whole list, or the number of calls. */
    String ask(String call) {
        switch (call) {
            case "calls":
                return Integer.toString(calls);
            case "line":
                return line();
            case "appeals":
                return numbers("appealCount", "appealAt ");
            case "harmed":
                return numbers("harmedCount", "harmedAt ");
            default:
                return askOnce(call);
        }
    }

    private String line() {
        StringBuilder read = new StringBuilder();
        String sign = ask("lineAt 0");
        while (sign.length() == 1) {
            read.append(sign);
            sign = ask("lineAt " + read.length());
        }
        return read.toString();
    }

    private String numbers(String count, String at) {
        StringBuilder read = new StringBuilder();
        int number = Integer.parseInt(ask(count));
        for (int i = 0; i < number; i++) {
            read.append(i == 0 ? "" : " ").append(ask(at + i));
        }
        return read.toString();
    }

    private String askOnce(String call) {
        if (!hasCallsLeft()) {
            throw new AssertionError("a test makes more than 512 calls: " + call);
        }
        calls++;
        String[] words = call.split(" ");
        Method method = FACE.get(words[0]);
        if (method == null || method.getParameterCount() != words.length - 1) {
            throw new AssertionError("a test makes a call that there is not: " + call);
        }
        Object[] arguments = new Object[words.length - 1];
        for (int i = 0; i < arguments.length; i++) {
            arguments[i] = number(words[i + 1]);
        }
        return String.valueOf(Checks.outcome(() -> invoke(method, arguments)));
    }

    private Object invoke(Method method, Object[] arguments) {
        try {
            return method.invoke(forge, arguments);
        } catch (InvocationTargetException wrapped) {
            if (wrapped.getCause() instanceof RuntimeException thrown) {
                throw thrown;
            }
            throw new AssertionError(wrapped.getCause());
        } catch (IllegalAccessException hidden) {
            throw new AssertionError(hidden);
        }
    }

    private static int number(String word) {
        switch (word) {
            case "least":
                return Integer.MIN_VALUE;
            case "most":
                return Integer.MAX_VALUE;
            default:
                return Integer.parseInt(word);
        }
    }

    private static Map<String, Method> face() {
        Map<String, Method> found = new TreeMap<>();
        for (Method method : CourseForge.class.getMethods()) {
            if (method.getDeclaringClass() == CourseForge.class) {
                found.put(method.getName(), method);
            }
        }
        return found;
    }
}
