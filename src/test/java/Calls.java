import java.lang.reflect.InvocationTargetException;
import java.lang.reflect.Method;
import java.lang.reflect.Modifier;
import java.util.ArrayList;
import java.util.HashMap;
import java.util.List;
import java.util.Map;
import java.util.TreeMap;

/** Calls of the face by name, each with its answer as a text: a number, or an exception's name without "Exception". */
final class Calls {
    /** The document promises nothing about an object beyond these. */
    static final int MOST = 512;
    private static final Map<String, Method> METHODS = methodsOfFace();
    /** The same calls are made again and again, and reading one takes longer than making it. */
    private static final Map<String, Object[]> NUMBERS = new HashMap<>();

    private Calls() {
    }

    private static Map<String, Method> methodsOfFace() {
        Map<String, Method> all = new TreeMap<>();
        for (Method m : XactKernel.class.getDeclaredMethods()) {
            if (Modifier.isPublic(m.getModifiers())) {
                all.put(m.getName(), m);
            }
        }
        return all;
    }

    static List<Method> methods() {
        return new ArrayList<>(METHODS.values());
    }

    /** What the face names behind "throws" for a call, none if there is no such call. */
    static List<String> exceptionsOf(String name) {
        List<String> all = new ArrayList<>();
        if (METHODS.containsKey(name)) {
            for (Class<?> e : METHODS.get(name).getExceptionTypes()) {
                all.add(shortName(e));
            }
        }
        return all;
    }

    static String shortName(Class<?> exception) {
        return exception.getSimpleName().replace("Exception", "");
    }

    static String nameOf(String call) {
        int end = call.indexOf(' ');
        return end < 0 ? call : call.substring(0, end);
    }

    /** The answer to a call as it is written in a run: its name and its numbers. */
    static String answer(XactKernel kernel, String call) {
        Method m = METHODS.get(nameOf(call));
        Object[] numbers = NUMBERS.computeIfAbsent(call, Calls::numbersOf);
        if (m == null || m.getParameterCount() != numbers.length) {
            return "no such call";
        }
        try {
            return String.valueOf(m.invoke(kernel, numbers));
        } catch (InvocationTargetException e) {
            return shortName(e.getCause().getClass());
        } catch (IllegalAccessException e) {
            return "not public";
        }
    }

    private static Object[] numbersOf(String call) {
        String[] words = call.split("\\s+");
        Object[] numbers = new Object[words.length - 1];
        for (int k = 0; k < numbers.length; k++) {
            numbers[k] = Integer.decode(words[k + 1]);
        }
        return numbers;
    }

    static boolean isNumber(String answer) {
        return answer.charAt(0) == '-' || Character.isDigit(answer.charAt(0));
    }
}
