import java.io.IOException;
import java.lang.reflect.InvocationTargetException;
import java.lang.reflect.Method;
import java.nio.file.Files;
import java.nio.file.Path;
import java.util.ArrayList;
import java.util.HashMap;
import java.util.List;
import java.util.Map;
import java.util.TreeSet;

/**
 * Plays the runs under src/test/runs. A line "run text" makes a new object; a line
 * "name number .. -> answer" is a call with the answer that is due, a number or the simple name of
 * an exception's class without "Exception". "#" begins a comment. There must be a file for each promise.
 */
public final class RunFiles {
    private static final int PROMISES = 26;
    private static final int MOST_CALLS = 512;
    private static final Map<String, Method> CALLS = new HashMap<>();
    private static int wrong = 0;
    private static int calls = 0;

    public static void main(String[] args) throws IOException {
        for (Method m : XactKernel.class.getDeclaredMethods()) {
            if (java.lang.reflect.Modifier.isPublic(m.getModifiers())) {
                CALLS.put(m.getName(), m);
            }
        }
        List<Path> files = new ArrayList<>();
        if (args.length > 0) {
            for (String name : args) {
                files.add(Path.of(name));
            }
        } else {
            try (var all = Files.list(Path.of("src/test/runs"))) {
                all.sorted().forEach(files::add);
            }
            demandFileForEachPromise(files);
        }
        for (Path file : files) {
            play(file);
        }
        System.out.println(calls + " calls of " + files.size() + " files, wrong: " + wrong);
        System.exit(wrong == 0 ? 0 : 1);
    }

    private static void demandFileForEachPromise(List<Path> files) {
        TreeSet<Integer> promises = new TreeSet<>();
        for (Path file : files) {
            String name = file.getFileName().toString();
            if (name.matches("promise-\\d\\d-.*")) {
                promises.add(Integer.parseInt(name.substring(8, 10)));
            }
        }
        for (int n = 1; n <= PROMISES; n++) {
            if (!promises.contains(n)) {
                complain("no file of runs for promise " + n);
            }
        }
    }

    private static void complain(String text) {
        wrong++;
        System.out.println(text);
    }

    private static void play(Path file) throws IOException {
        XactKernel kernel = null;
        String run = "";
        int made = 0;
        int number = 0;
        for (String raw : Files.readAllLines(file)) {
            number++;
            String line = raw.replaceFirst("#.*", "").trim();
            String where = file.getFileName() + ":" + number + " (" + run + "): " + line;
            if (line.isEmpty()) {
                continue;
            }
            if (line.startsWith("run")) {
                run = line;
                kernel = new XactKernel();
                made = 0;
                continue;
            }
            String[] sides = line.split("\\s*->\\s*");
            made++;
            if (kernel == null || sides.length != 2 || made > MOST_CALLS) {
                complain(where + " is no call of a run");
                continue;
            }
            calls++;
            String got = answer(kernel, sides[0].split("\\s+"));
            if (!got.equals(sides[1])) {
                complain(where + " answered " + got);
            }
        }
    }

    private static String answer(XactKernel kernel, String[] words) {
        Method m = CALLS.get(words[0]);
        if (m == null || m.getParameterCount() != words.length - 1) {
            return "no such call";
        }
        Object[] numbers = new Object[words.length - 1];
        for (int k = 0; k < numbers.length; k++) {
            numbers[k] = Integer.decode(words[k + 1]);
        }
        try {
            return String.valueOf(m.invoke(kernel, numbers));
        } catch (InvocationTargetException e) {
            return e.getCause().getClass().getSimpleName().replaceFirst("Exception$", "");
        } catch (IllegalAccessException e) {
            return "not public";
        }
    }
}
