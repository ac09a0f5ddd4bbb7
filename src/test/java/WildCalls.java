import java.lang.reflect.InvocationTargetException;
import java.lang.reflect.Method;
import java.lang.reflect.Modifier;
import java.util.ArrayList;
import java.util.Comparator;
import java.util.List;
import java.util.Random;

/**
 * Makes many calls with all sorts of numbers. A call may throw only what the document names for it,
 * and at the end of each run, long or short, what can be looked at must fit together.
 */
public final class WildCalls {
    private static final int RUNS = 10000;
    /** With the calls that look at the end a run stays below the 512 that the document allows. */
    private static final int MOST_CALLS = 280;
    private static final int[] PATHS = {0, 0x1, 0x2, 0x3, 0x4, 0x5, 0x6, 0x11, 0x21, 0x12, 0x22, 0x13, 0x111, 0x211,
        0x121, 0x1111, 0x9, 0xA, 0x10, 0x101, 0x10000, -1};
    private static final int[] ODD = {Integer.MIN_VALUE, -2, -1, 31, 32, 100, Integer.MAX_VALUE};
    private static final List<Method> METHODS = new ArrayList<>();
    private static int wrong = 0;

    public static void main(String[] args) throws IllegalAccessException {
        for (Method m : XactKernel.class.getDeclaredMethods()) {
            if (Modifier.isPublic(m.getModifiers())) {
                METHODS.add(m);
            }
        }
        METHODS.sort(Comparator.comparing(Method::getName));
        for (int run = 0; run < RUNS && wrong < 20; run++) {
            play(run);
        }
        System.out.println("wild calls: wrong: " + wrong);
        System.exit(wrong == 0 ? 0 : 1);
    }

    private static void play(int run) throws IllegalAccessException {
        Random random = new Random(run);
        XactKernel kernel = new XactKernel();
        XactKernel twin = new XactKernel();
        int calls = 1 + random.nextInt(MOST_CALLS);
        for (int n = 0; n < calls; n++) {
            Method m = METHODS.get(random.nextInt(METHODS.size()));
            Object[] numbers = numbersFor(m, random, run % 2 == 0);
            String call = "run " + run + ", call " + n + ", " + m.getName() + List.of(numbers);
            String got = answer(kernel, m, numbers, call);
            check(got.equals(answer(twin, m, numbers, call)), call + ": the same calls give the same answers");
        }
        checkState(kernel, "after " + calls + " calls of run " + run);
    }

    private static Object[] numbersFor(Method m, Random random, boolean calm) {
        Object[] numbers = new Object[m.getParameterCount()];
        boolean walks = List.of("open", "directory", "link", "unlink", "rename", "size").contains(m.getName());
        boolean twoPaths = List.of("link", "rename").contains(m.getName());
        for (int k = 0; k < numbers.length; k++) {
            boolean isPath = walks && (k == 1 || twoPaths && k == 2);
            if (!calm && random.nextInt(20) == 0) {
                numbers[k] = ODD[random.nextInt(ODD.length)];
            } else if (isPath) {
                numbers[k] = PATHS[random.nextInt(PATHS.length)];
            } else {
                numbers[k] = random.nextInt(k == 0 ? 3 : 5);
            }
        }
        if (m.getName().equals("log")) {
            numbers[0] = 2 + random.nextInt(13);
        }
        // A cut is rare, or no run would ever get far.
        if (m.getName().equals("cut") && random.nextInt(4) != 0) {
            numbers[0] = -1;
        }
        return numbers;
    }

    private static String answer(XactKernel kernel, Method m, Object[] numbers, String call)
            throws IllegalAccessException {
        try {
            return String.valueOf(m.invoke(kernel, numbers));
        } catch (InvocationTargetException e) {
            Class<?> thrown = e.getCause().getClass();
            check(List.of(m.getExceptionTypes()).contains(thrown), call + " threw " + e.getCause());
            return thrown.getName();
        }
    }

    private static void check(boolean holds, String what) {
        if (!holds) {
            wrong++;
            System.out.println("does not hold: " + what);
        }
    }

    private static void checkState(XactKernel kernel, String call) {
        int entries = 0;
        int named = 0;
        for (int i = 0; i < 15; i++) {
            int kind = kernel.item(i, 0);
            int length = kernel.item(i, 1);
            int links = kernel.item(i, 2);
            check(mayBe(i, kind), call + ": kind " + kind + " of item " + i);
            check(length >= 0 && length <= new int[] {0, 8, 5, 6}[kind], call + ": length " + length + " of item " + i);
            check(kind == XactKernel.FILE ? links >= 0 : links == 0, call + ": links " + links + " of item " + i);
            entries += kind == XactKernel.DIRECTORY ? length : 0;
            named += kind == XactKernel.FILE ? links : kind == XactKernel.DIRECTORY && i > 0 ? 1 : 0;
            int writers = kernel.item(i, 4);
            check(writers <= 1 && (writers == 0 || kernel.item(i, 3) <= 1),
                    call + ": two who write, or write and read, item " + i);
        }
        check(entries == named, call + ": " + entries + " entries, " + named + " named items");
        checkProcesses(kernel, call);
    }

    private static boolean mayBe(int i, int kind) {
        if (i == 0) {
            return kind == XactKernel.DIRECTORY;
        }
        return kind == XactKernel.FREE || (kind == XactKernel.PIPE) == (i >= 12);
    }

    private static void checkProcesses(XactKernel kernel, String call) {
        int there = 0;
        int running = 0;
        for (int p = 0; p < 6; p++) {
            there += kernel.look(p, 0);
            running += kernel.look(p, 1) > 0 ? 1 : 0;
            check(kernel.look(p, 1) == 0 || kernel.look(p, 2) == 0, call + ": " + p + " is told in a transaction");
            for (int d = 0; d < 4; d++) {
                int i = kernel.look(p, 4 + d);
                int place = kernel.look(p, 8 + d);
                check(i == -1 ? place == -1 : place >= 0 && place <= (i < 12 ? 8 : 1), call + ": place " + place);
                boolean own = kernel.look(p, 1) > 0;
                check(i == -1 || own || kernel.item(i, 0) == (i < 12 ? XactKernel.FILE : XactKernel.PIPE),
                        call + ": a descriptor of what is free");
            }
        }
        check(kernel.look(0, 0) == 1 && there == kernel.count(0), call + ": processes");
        check(running == kernel.count(1), call + ": transactions");
    }
}
