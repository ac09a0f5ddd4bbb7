import java.lang.reflect.Method;
import java.util.ArrayList;
import java.util.List;
import java.util.Random;

/** Calls with all sorts of numbers, as they are written in a run; the same seed gives the same calls. */
final class RandomCalls {
    private static final int[] PATHS = {0, 0x1, 0x2, 0x3, 0x4, 0x5, 0x6, 0x11, 0x21, 0x12, 0x22, 0x13, 0x111, 0x211,
        0x121, 0x1111, 0x9, 0xA, 0x10, 0x101, 0x10000, -1};
    private static final int[] ODD = {Integer.MIN_VALUE, -2, -1, 31, 32, 100, Integer.MAX_VALUE};
    private static final List<String> WITH_PATH = List.of("open", "directory", "link", "unlink", "rename", "size");
    private static final List<String> WITH_TWO = List.of("link", "rename");
    /** What changes nothing, or undoes much, comes less often than the rest. */
    private static final List<String> RARE = List.of("item", "cell", "look", "count", "exit", "abort", "log", "cut");
    private static final List<Method> METHODS = weighted();
    private final Random random;
    private final boolean calm;

    /** Calm calls have no numbers that are far out of range. */
    RandomCalls(long seed, boolean calm) {
        random = new Random(seed);
        this.calm = calm;
    }

    private static List<Method> weighted() {
        List<Method> all = new ArrayList<>();
        for (Method m : Calls.methods()) {
            for (int n = RARE.contains(m.getName()) ? 1 : 4; n > 0; n--) {
                all.add(m);
            }
        }
        return all;
    }

    int below(int bound) {
        return random.nextInt(bound);
    }

    String next() {
        Method m = METHODS.get(below(METHODS.size()));
        String name = m.getName();
        StringBuilder call = new StringBuilder(name);
        for (int k = 0; k < m.getParameterCount(); k++) {
            boolean isPath = k == 1 && WITH_PATH.contains(name) || k == 2 && WITH_TWO.contains(name);
            call.append(' ').append(number(name, k, isPath));
        }
        return call.toString();
    }

    private int number(String name, int k, boolean isPath) {
        if (name.equals("log")) {
            return below(3) == 0 ? 2 + below(2) : 4 + below(11);
        }
        // A cut is rare, or no run would ever get far.
        if (name.equals("cut") && below(4) != 0) {
            return -1;
        }
        if (!calm && below(20) == 0) {
            return ODD[below(ODD.length)];
        }
        return isPath ? PATHS[below(calm ? 16 : PATHS.length)] : below(k == 0 ? 3 : 4);
    }
}
