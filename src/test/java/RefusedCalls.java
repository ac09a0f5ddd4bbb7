import java.util.ArrayList;
import java.util.List;
import java.util.Map;
import java.util.Set;
import java.util.TreeMap;
import java.util.TreeSet;

/**
 * Looks at everything before and behind each call of random runs that goes wrong: such a call may change
 * nothing but what was read, and who met whom; and it leaves no trace if even these are as before.
 */
public final class RefusedCalls {
    private static final int RUNS = 250;
    /** A wrong number is the most common of all, and the least interesting. */
    private static final int ONE_OF_WRONG_NUMBERS = 10;
    /** Three processes that have something to meet at. */
    private static final List<String> BEGIN = List.of("directory 0 0x1", "open 0 0x2 1", "fork 0", "fork 0",
            "begin 0", "begin 1", "begin 2");
    private static final Map<String, Integer> SEEN = new TreeMap<>();
    private static int wrong = 0;
    private static Map<String, String> before;
    private static Map<String, String> behind;
    private static String where;

    public static void main(String[] args) {
        for (int run = 0; run < RUNS && wrong < 20; run++) {
            play(run);
        }
        System.out.println("refused calls: " + SEEN + ", wrong: " + wrong);
        check(SEEN.size() == 8, "each way to go wrong was seen");
        System.exit(wrong == 0 ? 0 : 1);
    }

    private static void play(int run) {
        RandomCalls random = new RandomCalls(run + 1000000L, run % 2 == 0);
        List<String> calls = new ArrayList<>();
        XactKernel kernel = new XactKernel();
        for (String call : BEGIN) {
            calls.add(call);
            Calls.answer(kernel, call);
        }
        while (calls.size() < Looks.MOST_CALLS_BEFORE) {
            String call = random.next();
            List<String> earlier = new ArrayList<>(calls);
            calls.add(call);
            String got = Calls.answer(kernel, call);
            boolean passed = got.equals("IllegalArgument") && random.below(ONE_OF_WRONG_NUMBERS) != 0;
            if (!Calls.isNumber(got) && !passed) {
                where = "run " + run + ", call " + earlier.size() + ", " + call + ", " + got;
                before = Looks.after(earlier);
                behind = Looks.after(calls);
                String way = wayOf(got, call);
                SEEN.merge(way, 1, Integer::sum);
                checkWay(way, call);
                checkNoTrace(earlier, calls);
            }
        }
    }

    private static String wayOf(String got, String call) {
        if (rise("count 4") > 0) {
            return "crash";
        }
        boolean ownAborted = rise("count 3") > toldNow().size();
        if (got.equals("IllegalState")) {
            return was("look " + processOf(call) + " 2") == 1 ? "told" : "failed";
        }
        return ownAborted ? "log" : got;
    }

    private static void checkWay(String way, String call) {
        switch (way) {
            case "IllegalArgument":
                check(before.equals(behind), "nothing is other than before");
                break;
            case "told":
                check(changed().equals(Set.of("look " + processOf(call) + " 2")), "it is told no more, and nothing else");
                break;
            case "crash":
                checkCrash();
                break;
            default:
                checkMeetings(processOf(call), way.equals("failed") || way.equals("log"));
                break;
        }
    }

    private static void checkCrash() {
        check(is("count 0") == 1 && is("count 1") == 0 && rise("count 4") == 1, "a crash leaves process 0 alone");
        check(rise("count 2") == 0 && rise("count 3") == 0, "a crash is no end and no abort");
        for (int i = 12; i < 15; i++) {
            check(is("item " + i + " 0") == 0, "no pipe is left");
        }
        for (int p = 0; p < 6; p++) {
            check(is("look " + p + " 0") == (p == 0 ? 1 : 0) && is("look " + p + " 1") == 0, "process 0, in none");
            check(is("look " + p + " 2") == 0 && is("look " + p + " 3") == 0, "nobody is told or has signals");
            for (int what = 4; what < 12; what++) {
                check(is("look " + p + " " + what) == -1, "no descriptors");
            }
        }
    }

    /** What may change when p's call goes wrong, with or without the end of p's own transaction. */
    private static void checkMeetings(int p, boolean aborted) {
        Set<Integer> told = toldNow();
        boolean wasIn = was("look " + p + " 1") > 0;
        check(rise("count 3") == told.size() + (aborted ? 1 : 0), "those that are aborted are counted");
        check(rise("count 1") == -told.size() - (aborted && wasIn ? 1 : 0), "those that go on are counted");
        for (int q = 0; q < 6; q++) {
            if (told.contains(q)) {
                check(was("look " + q + " 1") > 0 && is("look " + q + " 1") == 0, q + " was in one and is no more");
            } else if (q == p && aborted) {
                check(is("look " + q + " 1") == 0, "p is in none any more");
            }
        }
        for (String look : changed()) {
            check(mayChange(look, p, aborted, told), look + " is " + behind.get(look) + ", was " + before.get(look));
        }
        for (int i = 0; i < 15; i++) {
            int reads = rise("item " + i + " 3");
            int writes = rise("item " + i + " 4");
            check(reads <= (wasIn && !aborted ? 1 : 0), "p alone reads, item " + i);
            check(writes <= 0, "nothing is written, item " + i);
            check(aborted || !told.isEmpty() || reads >= 0 && writes == 0, "what was read stays read, item " + i);
        }
    }

    private static boolean mayChange(String look, int p, boolean aborted, Set<Integer> told) {
        if (look.matches("item \\d+ [34]|count [13]")) {
            return true;
        }
        if (!look.matches("look \\d ([124-9]|1[01])")) {
            return false;
        }
        int q = Integer.parseInt(look.split(" ")[1]);
        return told.contains(q) || q == p && aborted && !look.endsWith(" 2");
    }

    private static void checkNoTrace(List<String> earlier, List<String> calls) {
        for (String look : changed()) {
            if (!look.matches("item \\d+ 3")) {
                return;
            }
        }
        check(Looks.afterEnds(earlier).equals(Looks.afterEnds(calls)), "it leaves no trace");
    }

    private static int processOf(String call) {
        return Integer.parseInt(call.split(" ")[1]);
    }

    private static Set<String> changed() {
        return Looks.changes(before, behind).keySet();
    }

    private static Set<Integer> toldNow() {
        Set<Integer> told = new TreeSet<>();
        for (int q = 0; q < 6; q++) {
            if (rise("look " + q + " 2") > 0) {
                told.add(q);
            }
        }
        return told;
    }

    private static int was(String look) {
        return Integer.parseInt(before.get(look));
    }

    private static int is(String look) {
        return Integer.parseInt(behind.get(look));
    }

    private static int rise(String look) {
        return is(look) - was(look);
    }

    private static void check(boolean holds, String what) {
        if (!holds) {
            wrong++;
            System.out.println("does not hold: " + what + ": " + where);
        }
    }
}
