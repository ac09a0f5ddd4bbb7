import java.io.IOException;
import java.nio.file.Files;
import java.nio.file.Path;
import java.util.ArrayList;
import java.util.LinkedHashMap;
import java.util.List;
import java.util.Map;
import java.util.TreeMap;
import java.util.TreeSet;

/**
 * Plays the runs under src/test/runs. A line "run text" makes a new object. A line of calls is
 * "name number .. -> answer", several with ";" between them; the answer that is due is a number or the
 * simple name of an exception's class without "Exception". Behind "|" stands ALL that looks different
 * after a call, "look -> new answer" with "|" between them, or "nothing". "#" begins a comment.
 */
public final class RunFiles {
    private static final int PROMISES = 26;
    private static final Map<String, TreeSet<String>> ANSWERS = new TreeMap<>();
    /** Those answers behind which all that looks different is written. */
    private static final Map<String, TreeSet<String>> WITH_CHANGES = new TreeMap<>();
    private static int wrong = 0;
    private static int calls = 0;
    private static XactKernel kernel = null;
    private static String run = "";
    private static final List<String> PLAYED = new ArrayList<>();

    public static void main(String[] args) throws IOException {
        List<Path> files = new ArrayList<>();
        if (args.length > 0) {
            for (String name : args) {
                files.add(Path.of(name));
            }
        } else {
            try (var all = Files.list(Path.of("src/test/runs"))) {
                all.sorted().forEach(files::add);
            }
        }
        for (Path file : files) {
            play(file);
        }
        if (args.length == 0) {
            demandFilesForEachPromise(files);
        }
        System.out.println(calls + " calls of " + files.size() + " files, wrong: " + wrong);
        System.exit(wrong == 0 ? 0 : 1);
    }

    /**
     * Each promise has its files, and in them each exception that it names; in that of its boundary cases
     * with all that looks different then.
     */
    private static void demandFilesForEachPromise(List<Path> files) {
        for (int n = 1; n <= PROMISES; n++) {
            demandFile(files, String.format("promise-%02d-", n), ANSWERS);
            demandFile(files, String.format("edges-%02d-", n), WITH_CHANGES);
        }
    }

    private static void demandFile(List<Path> files, String begin, Map<String, TreeSet<String>> answers) {
        boolean there = false;
        for (Path file : files) {
            String name = file.getFileName().toString();
            if (name.startsWith(begin)) {
                there = true;
                String call = name.substring(begin.length()).replace(".txt", "");
                demandEachException(name, call, answers.getOrDefault(name + " " + call, new TreeSet<>()));
            }
        }
        if (!there) {
            complain("no file of runs " + begin);
        }
    }

    private static void demandEachException(String file, String call, TreeSet<String> answers) {
        for (String due : Calls.exceptionsOf(call)) {
            if (!answers.contains(due)) {
                complain(file + ": no call of " + call + " answers " + due);
            }
        }
    }

    private static void complain(String text) {
        wrong++;
        System.out.println(text);
    }

    private static void play(Path file) throws IOException {
        int number = 0;
        kernel = null;
        for (String raw : Files.readAllLines(file)) {
            number++;
            String line = raw.replaceFirst("#.*", "").trim();
            String name = file.getFileName().toString();
            if (line.startsWith("run")) {
                run = line;
                kernel = new XactKernel();
                PLAYED.clear();
            } else if (!line.isEmpty()) {
                playLine(name, line, name + ":" + number + " (" + run + "): ");
            }
        }
    }

    private static void playLine(String file, String line, String where) {
        if (!line.contains("|")) {
            for (String call : line.split(";")) {
                playCall(file, call.trim(), where, ANSWERS);
            }
            return;
        }
        String[] parts = line.split("\\|");
        List<String> before = new ArrayList<>(PLAYED);
        String answer = playCall(file, parts[0].trim(), where, WITH_CHANGES);
        checkChanges(before, parts, where + line, !Calls.isNumber(answer));
    }

    private static String playCall(String file, String text, String where, Map<String, TreeSet<String>> answers) {
        String[] sides = text.split("\\s*->\\s*");
        if (kernel == null || sides.length != 2 || PLAYED.size() >= Calls.MOST) {
            complain(where + text + " is no call of a run");
            return "none";
        }
        calls++;
        PLAYED.add(sides[0]);
        String got = Calls.answer(kernel, sides[0]);
        answers.computeIfAbsent(file + " " + Calls.nameOf(sides[0]), key -> new TreeSet<>()).add(got);
        if (!got.equals(sides[1])) {
            complain(where + text + " answered " + got);
        }
        return got;
    }

    private static void checkChanges(List<String> before, String[] parts, String where, boolean refused) {
        if (PLAYED.size() > Looks.MOST_CALLS_BEFORE) {
            complain(where + " comes too late in its run for a look at everything");
            return;
        }
        Map<String, String> due = new LinkedHashMap<>();
        boolean onlyReads = true;
        for (int k = 1; k < parts.length; k++) {
            String[] sides = parts[k].trim().split("\\s*->\\s*");
            if (sides.length == 2) {
                due.put(sides[0], sides[1]);
                onlyReads &= sides[0].matches("item \\d+ 3");
            } else if (!sides[0].equals("nothing")) {
                complain(where + " has no such change as " + sides[0]);
            }
        }
        Map<String, String> got = Looks.changes(Looks.after(before), Looks.after(PLAYED));
        if (!got.equals(due)) {
            complain(where + " changed " + got);
        }
        if (refused && onlyReads && !Looks.afterEnds(before).equals(Looks.afterEnds(PLAYED))) {
            complain(where + " left a trace: " + Looks.changes(Looks.afterEnds(before), Looks.afterEnds(PLAYED)));
        }
    }
}
