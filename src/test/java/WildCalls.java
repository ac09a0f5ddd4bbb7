/**
 * Makes many calls with all sorts of numbers. A call may throw only what the document names for it,
 * and at the end of each run, long or short, what can be looked at must fit together.
 */
public final class WildCalls {
    private static final int RUNS = 10000;
    /** With the calls that look at the end a run stays below the 512 that the document allows. */
    private static final int MOST_CALLS = 280;
    private static int wrong = 0;

    public static void main(String[] args) {
        for (int run = 0; run < RUNS && wrong < 20; run++) {
            play(run);
        }
        System.out.println("wild calls: wrong: " + wrong);
        System.exit(wrong == 0 ? 0 : 1);
    }

    private static void play(int run) {
        RandomCalls random = new RandomCalls(run, run % 2 == 0);
        XactKernel kernel = new XactKernel();
        XactKernel twin = new XactKernel();
        int calls = 1 + random.below(MOST_CALLS);
        for (int n = 0; n < calls; n++) {
            String call = random.next();
            String where = "run " + run + ", call " + n + ", " + call;
            String got = Calls.answer(kernel, call);
            check(mayAnswer(call, got), where + " answered " + got);
            check(got.equals(Calls.answer(twin, call)), where + ": the same calls give the same answers");
        }
        checkState(kernel, "after " + calls + " calls of run " + run);
    }

    private static boolean mayAnswer(String call, String got) {
        return Calls.isNumber(got) || Calls.exceptionsOf(Calls.nameOf(call)).contains(got);
    }

    private static void check(boolean holds, String what) {
        if (!holds) {
            wrong++;
            System.out.println("does not hold: " + what);
        }
    }

    private static void checkState(XactKernel kernel, String where) {
        int entries = 0;
        int named = 0;
        for (int i = 0; i < 15; i++) {
            int kind = kernel.item(i, 0);
            int length = kernel.item(i, 1);
            int links = kernel.item(i, 2);
            check(mayBe(i, kind), where + ": kind " + kind + " of item " + i);
            check(length >= 0 && length <= new int[] {0, 8, 5, 6}[kind], where + ": length " + length + " of item " + i);
            check(kind == XactKernel.FILE ? links >= 0 : links == 0, where + ": links " + links + " of item " + i);
            entries += kind == XactKernel.DIRECTORY ? length : 0;
            named += kind == XactKernel.FILE ? links : kind == XactKernel.DIRECTORY && i > 0 ? 1 : 0;
            int writers = kernel.item(i, 4);
            check(writers <= 1 && (writers == 0 || kernel.item(i, 3) <= 1),
                    where + ": two who write, or write and read, item " + i);
        }
        check(entries == named, where + ": " + entries + " entries, " + named + " named items");
        checkProcesses(kernel, where);
    }

    private static boolean mayBe(int i, int kind) {
        if (i == 0) {
            return kind == XactKernel.DIRECTORY;
        }
        return kind == XactKernel.FREE || (kind == XactKernel.PIPE) == (i >= 12);
    }

    private static void checkProcesses(XactKernel kernel, String where) {
        int there = 0;
        int running = 0;
        for (int p = 0; p < 6; p++) {
            there += kernel.look(p, 0);
            running += kernel.look(p, 1) > 0 ? 1 : 0;
            check(kernel.look(p, 1) == 0 || kernel.look(p, 2) == 0, where + ": " + p + " is told in a transaction");
            for (int d = 0; d < 4; d++) {
                int i = kernel.look(p, 4 + d);
                int place = kernel.look(p, 8 + d);
                check(i == -1 ? place == -1 : place >= 0 && place <= (i < 12 ? 8 : 1), where + ": place " + place);
                boolean own = kernel.look(p, 1) > 0;
                check(i == -1 || own || kernel.item(i, 0) == (i < 12 ? XactKernel.FILE : XactKernel.PIPE),
                        where + ": a descriptor of what is free");
            }
        }
        check(kernel.look(0, 0) == 1 && there == kernel.count(0), where + ": processes");
        check(running == kernel.count(1), where + ": transactions");
    }
}
