import java.util.LinkedHashMap;
import java.util.List;
import java.util.Map;

/**
 * All that can be looked at of an object, by the calls that look. They are many, and an object has few
 * calls, so each look at everything plays its calls on an object of its own.
 */
final class Looks {
    /** How many calls may stand before a look at everything. */
    static final int MOST_CALLS_BEFORE = Calls.MOST - 275 - 6 * 21;

    private Looks() {
    }

    /** What there is to be seen after these calls. */
    static Map<String, String> after(List<String> calls) {
        return all(played(calls));
    }

    /**
     * What there is to be seen when all transactions that go on have then been ended. It shows what the
     * calls that look can't: copies, and signals not sent yet.
     */
    static Map<String, String> afterEnds(List<String> calls) {
        XactKernel kernel = played(calls);
        for (int p = 0; p < 6; p++) {
            for (int depth = kernel.look(p, 1); depth > 0; depth--) {
                Calls.answer(kernel, "end " + p);
            }
        }
        return all(kernel);
    }

    private static XactKernel played(List<String> calls) {
        XactKernel kernel = new XactKernel();
        for (String call : calls) {
            Calls.answer(kernel, call);
        }
        return kernel;
    }

    private static Map<String, String> all(XactKernel kernel) {
        Map<String, String> seen = new LinkedHashMap<>();
        for (int i = 0; i < 15; i++) {
            look(kernel, seen, "item " + i, 5);
            look(kernel, seen, "cell " + i, 8);
        }
        for (int p = 0; p < 6; p++) {
            look(kernel, seen, "look " + p, 12);
        }
        look(kernel, seen, "count", 6);
        // These two change what they tell, so they come last.
        seen.put("cut", Calls.answer(kernel, "cut -1"));
        seen.put("log", Calls.answer(kernel, "log 8"));
        return seen;
    }

    private static void look(XactKernel kernel, Map<String, String> seen, String call, int numbers) {
        for (int n = 0; n < numbers; n++) {
            seen.put(call + " " + n, Calls.answer(kernel, call + " " + n));
        }
    }

    /** What looks different behind a call: each look with its new answer. */
    static Map<String, String> changes(Map<String, String> before, Map<String, String> behind) {
        Map<String, String> changed = new LinkedHashMap<>();
        for (Map.Entry<String, String> one : behind.entrySet()) {
            if (!one.getValue().equals(before.get(one.getKey()))) {
                changed.put(one.getKey(), one.getValue());
            }
        }
        return changed;
    }
}
