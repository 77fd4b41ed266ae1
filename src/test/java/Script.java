import java.lang.reflect.InvocationTargetException;
import java.lang.reflect.Method;
import java.util.ArrayList;
import java.util.HashMap;
import java.util.List;
import java.util.Map;
import java.util.NoSuchElementException;

/**
 * Calls told as texts: "fix 0 2 100", behind which the answer that is due may stand: "fix 0 2 100 = false". Several
 * stand in one text with a semicolon between them, and "10x observe 0 0 0 1 5 1" is told ten times.
 */
final class Script {
    private static final Map<String, Method> METHODS = new HashMap<>();

    private Script() {
    }

    /** The calls of some texts, one by one. */
    static List<String> calls(String... texts) {
        List<String> calls = new ArrayList<>();
        for (String text : texts) {
            for (String part : text.split(";")) {
                String call = part.trim();
                int times = 1;
                if (call.matches("[0-9]+x .*")) {
                    times = Integer.parseInt(call.substring(0, call.indexOf('x')));
                    call = call.substring(call.indexOf('x') + 2);
                }
                for (int count = 0; count < times; count++) {
                    calls.add(call);
                }
            }
        }
        return calls;
    }

    static String nameOf(String call) {
        return call.split(" ")[0];
    }

    private static String callPart(String call) {
        return call.split("=")[0].trim();
    }

    /** What stands behind the sign of equality, or null. */
    static String dueOf(String call) {
        String[] parts = call.split("=");
        return parts.length > 1 ? parts[1].trim() : null;
    }

    /** Calls a land, or the plain model of one: a number, a truth value, or the class of what was thrown. */
    static Object call(Object land, String call) {
        String[] words = callPart(call).split(" +");
        Method method = methodOf(land.getClass(), words[0]);
        Object[] values = new Object[words.length - 1];
        for (int index = 0; index < values.length; index++) {
            values[index] = valueOf(words[index + 1]);
        }
        try {
            return method.invoke(land, values);
        } catch (InvocationTargetException e) {
            return e.getCause().getClass();
        } catch (ReflectiveOperationException e) {
            throw new IllegalStateException(e);
        }
    }

    private static Object valueOf(String word) {
        switch (word) {
            case "true":
                return true;
            case "false":
                return false;
            case "MIN":
                return Integer.MIN_VALUE;
            case "MAX":
                return Integer.MAX_VALUE;
            default:
                return Integer.valueOf(word);
        }
    }

    private static Method methodOf(Class<?> kind, String name) {
        return METHODS.computeIfAbsent(kind.getName() + "." + name, key -> {
            for (Method method : kind.getMethods()) {
                if (method.getName().equals(name)) {
                    return method;
                }
            }
            throw new IllegalStateException("no method " + name);
        });
    }

    static boolean isRefusal(Object answer) {
        return answer instanceof Class;
    }

    /** Whether an answer is the one told as a text: for a float or a double, it may be a division. */
    static boolean isAnswer(Object answer, String due) {
        if (answer instanceof Class) {
            return answer == exceptionOf(due);
        }
        if (answer instanceof Float) {
            String[] parts = (due + "/1").split("/");
            return (Float) answer == Float.parseFloat(parts[0]) / Float.parseFloat(parts[1]);
        }
        if (answer instanceof Double) {
            String[] parts = (due + "/1").split("/");
            return (Double) answer == Double.parseDouble(parts[0]) / Double.parseDouble(parts[1]);
        }
        return String.valueOf(answer).equals(due);
    }

    private static Class<?> exceptionOf(String due) {
        switch (due) {
            case "INDEX":
                return IndexOutOfBoundsException.class;
            case "ARGUMENT":
                return IllegalArgumentException.class;
            case "STATE":
                return IllegalStateException.class;
            case "NONE":
                return NoSuchElementException.class;
            case "UNSUPPORTED":
                return UnsupportedOperationException.class;
            case "ARITHMETIC":
                return ArithmeticException.class;
            default:
                return null;
        }
    }
}
