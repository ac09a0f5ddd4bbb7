import java.lang.reflect.InvocationTargetException;
import java.lang.reflect.Method;
import java.lang.reflect.Modifier;
import java.util.ArrayList;
import java.util.List;
import java.util.Map;
import java.util.TreeMap;

/** Calls of the face by name, each with its answer as a text: a number, or an exception's name without "Exception". */
final class Calls {
    /** The document promises nothing about an object beyond these. */
    static final int MOST = 512;
    private static final Map<String, Method> METHODS = methodsOfFace();

    private Calls() {
    }

    private static Map<String, Method> methodsOfFace() {
        Map<String, Method> all = new TreeMap<>();
        for (Method m : XactKernel.class.getDeclaredMethods()) {
            if (Modifier.isPublic(m.getModifiers())) {
                all.put(m.getName(), m);
            }
        }
        return all;
    }

    static List<Method> methods() {
        return new ArrayList<>(METHODS.values());
    }

    /** What the face names behind "throws" for a call, none if there is no such call. */
    static List<String> exceptionsOf(String name) {
        List<String> all = new ArrayList<>();
        if (METHODS.containsKey(name)) {
            for (Class<?> e : METHODS.get(name).getExceptionTypes()) {
                all.add(shortName(e));
            }
        }
        return all;
    }

    static String shortName(Class<?> exception) {
        return exception.getSimpleName().replaceFirst("Exception$", "");
    }

    /** The answer to a call as it is written in a run: its name and its numbers. */
    static String answer(XactKernel kernel, String call) {
        String[] words = call.trim().split("\\s+");
        Method m = METHODS.get(words[0]);
        if (m == null || m.getParameterCount() != words.length - 1) {
            return "no such call";
        }
        Object[] numbers = new Object[words.length - 1];
        for (int k = 0; k < numbers.length; k++) {
            numbers[k] = Integer.decode(words[k + 1]);
        }
        try {
            return String.valueOf(m.invoke(kernel, numbers));
        } catch (InvocationTargetException e) {
            return shortName(e.getCause().getClass());
        } catch (IllegalAccessException e) {
            return "not public";
        }
    }
}
