import java.util.NoSuchElementException;

/**
 * A kernel whose calls can be grouped into transactions. A call of the face looks at its numbers
 * first; what else goes wrong is handed outwards as a state (FAILED and the others) and becomes an
 * exception only in answered(), when everything has been put in order.
 */
public final class XactKernel {
    public static final int FREE = 0, FILE = 1, DIRECTORY = 2, PIPE = 3;

    private static final int ITEMS = 15;
    private static final int FIRST_PIPE = 12;
    private static final int ROOT = 0;
    private static final int PROCESSES = 6;
    private static final int DESCRIPTORS = 4;
    private static final int CELLS = 8;
    private static final int ENTRIES = 5;
    private static final int PIPE_INTS = 6;
    private static final int SIGNALS = 4;
    private static final int DEEPEST = 20;
    private static final int NAMES = 4;
    private static final int TO_READ = 0;
    private static final int TO_WRITE = 1;
    private static final int NONE = -1;
    private static final boolean READING = false;
    private static final boolean WRITING = true;

    // Below NONE, so that a walk can answer an item or the reason why there is none.
    private static final int OK = 0;
    private static final int FAILED = -2;
    private static final int MISSING = -3;
    private static final int FULL = -4;
    private static final int REFUSED = -5;

    private final Item[] items = new Item[ITEMS];
    private final ProcessState[] processes = new ProcessState[PROCESSES];
    private int logSize = 8;
    private int cutAfter = NONE;
    private int beginnings = 0;
    private int endsDone = 0;
    private int aborted = 0;
    private int crashes = 0;
    private int diskWrites = 0;
    private int answer = 0;

    public XactKernel() {
        for (int i = 0; i < ITEMS; i++) {
            items[i] = new Item();
        }
        for (int p = 0; p < PROCESSES; p++) {
            processes[p] = new ProcessState();
        }
        items[ROOT].become(DIRECTORY);
        processes[0].reset(true);
    }

    // ---- The face: transactions ----

    public int begin(int p) throws IllegalArgumentException, IllegalStateException, IndexOutOfBoundsException {
        demand(isThere(p));
        return settle(p, wasTold(p) ? FAILED : goDeeper(p));
    }

    public int end(int p) throws IllegalArgumentException, IllegalStateException, NoSuchElementException,
            IndexOutOfBoundsException, UnsupportedOperationException {
        demand(isThere(p));
        return settle(p, wasTold(p) ? FAILED : goBack(p));
    }

    public int abort(int p) throws IllegalArgumentException, IllegalStateException, NoSuchElementException {
        demand(isThere(p));
        return settle(p, wasTold(p) ? FAILED : giveUp(p));
    }

    // ---- The face: descriptors ----

    public int open(int p, int path, int how) throws IllegalArgumentException, IllegalStateException,
            NoSuchElementException, IndexOutOfBoundsException, UnsupportedOperationException {
        demand(isThere(p) && isPath(path) && how >= 0 && how <= 2);
        return settle(p, enters(p) ? openFile(p, path, how) : FAILED);
    }

    public int close(int p, int d) throws IllegalArgumentException, IllegalStateException {
        demand(isThere(p) && isOpen(p, d));
        return settle(p, wasTold(p) ? FAILED : closeDescriptor(p, d));
    }

    public int read(int p, int d) throws IllegalArgumentException, IllegalStateException, NoSuchElementException,
            UnsupportedOperationException {
        demand(isThere(p) && isOpen(p, d));
        return settle(p, enters(p) ? readFrom(p, d) : FAILED);
    }

    public int write(int p, int d, int v) throws IllegalArgumentException, IllegalStateException,
            IndexOutOfBoundsException, UnsupportedOperationException {
        demand(isThere(p) && isOpen(p, d));
        return settle(p, enters(p) ? writeTo(p, d, v) : FAILED);
    }

    public int seek(int p, int d, int n) throws IllegalArgumentException, IllegalStateException,
            UnsupportedOperationException {
        demand(isThere(p) && isOpen(p, d) && n >= 0 && n <= CELLS);
        return settle(p, wasTold(p) ? FAILED : movePlace(p, d, n));
    }

    public int truncate(int p, int d, int n) throws IllegalArgumentException, IllegalStateException,
            UnsupportedOperationException, IndexOutOfBoundsException {
        demand(isThere(p) && isOpen(p, d) && n >= 0 && n <= CELLS);
        return settle(p, enters(p) ? resizeFile(p, d, n) : FAILED);
    }

    // ---- The face: paths ----

    public int directory(int p, int path) throws IllegalArgumentException, IllegalStateException,
            NoSuchElementException, IndexOutOfBoundsException, UnsupportedOperationException {
        demand(isThere(p) && isPath(path));
        return settle(p, enters(p) ? makeDirectory(p, path) : FAILED);
    }

    public int link(int p, int path, int to) throws IllegalArgumentException, IllegalStateException,
            NoSuchElementException, IndexOutOfBoundsException, UnsupportedOperationException {
        demand(isThere(p) && isPath(path) && isPath(to));
        return settle(p, enters(p) ? addLink(p, path, to) : FAILED);
    }

    public int unlink(int p, int path) throws IllegalArgumentException, IllegalStateException,
            NoSuchElementException, IndexOutOfBoundsException, UnsupportedOperationException {
        demand(isThere(p) && isPath(path));
        return settle(p, enters(p) ? removeEntry(p, path) : FAILED);
    }

    public int rename(int p, int path, int to) throws IllegalArgumentException, IllegalStateException,
            NoSuchElementException, IndexOutOfBoundsException, UnsupportedOperationException {
        demand(isThere(p) && isPath(path) && isPath(to));
        return settle(p, enters(p) ? moveEntry(p, path, to) : FAILED);
    }

    public int size(int p, int path) throws IllegalArgumentException, IllegalStateException,
            NoSuchElementException, UnsupportedOperationException {
        demand(isThere(p) && isPath(path));
        return settle(p, enters(p) ? measure(p, path) : FAILED);
    }

    // ---- The face: pipes, processes, signals ----

    public int pipe(int p) throws IllegalArgumentException, IllegalStateException, IndexOutOfBoundsException {
        demand(isThere(p));
        return settle(p, enters(p) ? makePipe(p) : FAILED);
    }

    public int fork(int p) throws IllegalArgumentException, IllegalStateException, UnsupportedOperationException,
            IndexOutOfBoundsException {
        demand(isThere(p));
        return settle(p, wasTold(p) ? FAILED : makeProcess(p));
    }

    public int exit(int p) throws IllegalArgumentException, IllegalStateException, UnsupportedOperationException {
        demand(isThere(p));
        return settle(p, wasTold(p) ? FAILED : removeProcess(p));
    }

    public int signal(int p, int q, int n) throws IllegalArgumentException, IllegalStateException,
            NoSuchElementException, IndexOutOfBoundsException {
        demand(isThere(p) && q >= 0 && q < PROCESSES && n >= 1 && n <= 99);
        return settle(p, wasTold(p) ? FAILED : sendSignal(p, q, n));
    }

    public int take(int p) throws IllegalArgumentException, IllegalStateException, NoSuchElementException {
        demand(isThere(p));
        return settle(p, wasTold(p) ? FAILED : takeSignal(p));
    }

    // ---- The face: the disk ----

    public int log(int n) throws IllegalArgumentException {
        demand(n >= 2 && n <= 14);
        int before = logSize;
        logSize = n;
        return before;
    }

    public int cut(int n) throws IllegalArgumentException {
        demand(n >= NONE && n <= 30);
        int before = cutAfter;
        cutAfter = n;
        return before;
    }

    // ---- The face: looking ----

    public int item(int i, int what) throws IllegalArgumentException {
        demand(isItem(i) && what >= 0 && what <= 4);
        switch (what) {
            case 0:
                return items[i].kind;
            case 1:
                return items[i].length;
            case 2:
                return items[i].links;
            case 3:
                return readersOf(i);
            default:
                return writersOf(i);
        }
    }

    public int cell(int i, int k) throws IllegalArgumentException, IndexOutOfBoundsException {
        demand(isItem(i));
        boolean there = k >= 0 && k < items[i].length;
        answer = there ? items[i].cells[k] : 0;
        return answered(there ? OK : FULL);
    }

    public int look(int p, int what) throws IllegalArgumentException {
        demand(p >= 0 && p < PROCESSES && what >= 0 && what <= 11);
        ProcessState seen = processes[p];
        if (what >= 8) {
            return seen.table.places[what - 8];
        }
        if (what >= 4) {
            return seen.table.items[what - 4];
        }
        switch (what) {
            case 0:
                return seen.there ? 1 : 0;
            case 1:
                return seen.own.depth;
            case 2:
                return seen.told ? 1 : 0;
            default:
                return seen.signalCount;
        }
    }

    public int count(int what) throws IllegalArgumentException {
        demand(what >= 0 && what <= 5);
        switch (what) {
            case 0:
                return processesThere();
            case 1:
                return transactionsRunning();
            case 2:
                return endsDone;
            case 3:
                return aborted;
            case 4:
                return crashes;
            default:
                return diskWrites;
        }
    }

    // ---- What goes wrong, and how a call is left ----

    private static void demand(boolean holds) {
        if (!holds) {
            throw new IllegalArgumentException();
        }
    }

    private boolean isThere(int p) {
        return p >= 0 && p < PROCESSES && processes[p].there;
    }

    private boolean isOpen(int p, int d) {
        return d >= 0 && d < DESCRIPTORS && processes[p].table.items[d] != NONE;
    }

    private static boolean isItem(int i) {
        return i >= 0 && i < ITEMS;
    }

    /** Whether the process was told; being told holds for one call only. */
    private boolean wasTold(int p) {
        boolean told = processes[p].told;
        processes[p].told = false;
        return told;
    }

    /** Lets a call that uses items in, as a transaction for itself if its process is in none. */
    private boolean enters(int p) {
        if (wasTold(p)) {
            return false;
        }
        if (processes[p].own.depth == 0) {
            startTransaction(p);
        }
        return true;
    }

    private int reply(int value) {
        answer = value;
        return OK;
    }

    /** Leaves a call: a transaction with depth 0, that of a call outside or of a last end(), ends here. */
    private int settle(int p, int state) {
        Transaction own = processes[p].own;
        int last = state;
        if (own.running && own.depth == 0) {
            if (state == OK) {
                last = conclude(p);
            } else {
                own.stop();
            }
        }
        freeUnnamed();
        return answered(last);
    }

    private int answered(int state) {
        switch (state) {
            case FAILED:
                throw new IllegalStateException();
            case MISSING:
                throw new NoSuchElementException();
            case FULL:
                throw new IndexOutOfBoundsException();
            case REFUSED:
                throw new UnsupportedOperationException();
            default:
                return answer;
        }
    }

    // ---- Transactions ----

    private void startTransaction(int p) {
        beginnings++;
        processes[p].own.start(beginnings, processes[p].table);
    }

    private int goDeeper(int p) {
        Transaction own = processes[p].own;
        if (own.depth >= DEEPEST) {
            return FULL;
        }
        if (own.depth == 0) {
            startTransaction(p);
        }
        own.depth++;
        return reply(own.depth);
    }

    /** One less deep; from 1 it is then as that of a call outside, and settle() ends it. */
    private int goBack(int p) {
        Transaction own = processes[p].own;
        if (own.depth == 0) {
            return MISSING;
        }
        own.depth--;
        return reply(own.depth);
    }

    private int giveUp(int p) {
        int depth = processes[p].own.depth;
        if (depth == 0) {
            return MISSING;
        }
        abortOf(p);
        return reply(depth);
    }

    private void abortOf(int p) {
        ProcessState one = processes[p];
        one.table.copyFrom(one.own.before);
        one.own.stop();
        aborted++;
    }

    /** Ends the transaction of a process, in whatever way the log and a cut allow. */
    private int conclude(int p) {
        Transaction own = processes[p].own;
        int onDisk = own.wroteOnDisk();
        if (onDisk > 0) {
            if (onDisk + 2 > logSize) {
                abortOf(p);
                return FULL;
            }
            int all = 2 * onDisk + 1;
            int done = writesBeforeCut(all);
            if (done < all) {
                crash(own, done > onDisk);
                return REFUSED;
            }
        }
        install(own);
        deliver(own);
        own.stop();
        endsDone++;
        return OK;
    }

    /** A cut is used up by the first end that writes, even by one that it doesn't reach. */
    private int writesBeforeCut(int all) {
        int done = cutAfter == NONE ? all : Math.min(cutAfter, all);
        cutAfter = NONE;
        diskWrites += done;
        return done;
    }

    private void install(Transaction own) {
        for (int i = 0; i < ITEMS; i++) {
            if (own.wrote[i]) {
                items[i].copyFrom(own.copies[i]);
            }
        }
    }

    private void deliver(Transaction own) {
        for (int k = 0; k < own.signalCount; k++) {
            ProcessState to = processes[own.signalTo[k]];
            if (to.there && to.signalCount < SIGNALS) {
                to.addSignal(own.signals[k]);
            }
        }
    }

    private void crash(Transaction own, boolean marked) {
        if (marked) {
            install(own);
        }
        // Without descriptors no pipe is named any more: they are freed when the call is left.
        for (int p = 0; p < PROCESSES; p++) {
            processes[p].reset(p == 0);
        }
        crashes++;
    }

    // ---- Who meets whom ----

    /** Whether a call of p may use an item: an older transaction stops it, younger ones give way. */
    private boolean meets(int p, int i, boolean writing) {
        int began = processes[p].own.began;
        for (int q = 0; q < PROCESSES; q++) {
            Transaction other = processes[q].own;
            if (q != p && other.minds(i, writing) && other.began < began) {
                abortOf(p);
                return false;
            }
        }
        for (int q = 0; q < PROCESSES; q++) {
            if (q != p && processes[q].own.minds(i, writing)) {
                abortOf(q);
                processes[q].told = true;
            }
        }
        // A read is kept whatever comes; a copy waits (see copyFor), as a call that goes wrong writes nothing.
        if (!writing) {
            processes[p].own.read[i] = true;
        }
        return true;
    }

    private Item seenBy(int p, int i) {
        Transaction own = processes[p].own;
        return own.wrote[i] ? own.copies[i] : items[i];
    }

    private Item copyFor(int p, int i) {
        Transaction own = processes[p].own;
        if (!own.wrote[i]) {
            own.copies[i].copyFrom(items[i]);
            own.wrote[i] = true;
        }
        return own.copies[i];
    }

    private int readersOf(int i) {
        int n = 0;
        for (int p = 0; p < PROCESSES; p++) {
            n += processes[p].own.running && processes[p].own.read[i] ? 1 : 0;
        }
        return n;
    }

    private int writersOf(int i) {
        int n = 0;
        for (int p = 0; p < PROCESSES; p++) {
            n += processes[p].own.running && processes[p].own.wrote[i] ? 1 : 0;
        }
        return n;
    }

    // ---- Items ----

    private int leastFreeItem(int from, int to) {
        for (int i = from; i < to; i++) {
            if (items[i].kind == FREE && writersOf(i) == 0) {
                return i;
            }
        }
        return FULL;
    }

    private void freeUnnamed() {
        for (int i = 1; i < ITEMS; i++) {
            if (isLoose(i) && !isNamed(i)) {
                items[i].become(FREE);
            }
        }
    }

    private boolean isLoose(int i) {
        if (items[i].kind == FILE) {
            return items[i].links == 0 && writersOf(i) == 0;
        }
        return items[i].kind == PIPE;
    }

    private boolean isNamed(int i) {
        for (int p = 0; p < PROCESSES; p++) {
            ProcessState one = processes[p];
            if (one.table.names(i) || one.own.running && one.own.before.names(i)) {
                return true;
            }
        }
        return false;
    }

    // ---- Paths ----

    private static int nameAt(int path, int k) {
        return path >> 4 * k & 15;
    }

    private static boolean isPath(int path) {
        if (path < 0 || path > 0xFFFF) {
            return false;
        }
        boolean over = false;
        for (int k = 0; k < NAMES; k++) {
            int name = nameAt(path, k);
            if (name > 9 || over && name != 0) {
                return false;
            }
            over = name == 0;
        }
        return true;
    }

    private static int namesIn(int path) {
        int n = 0;
        while (n < NAMES && nameAt(path, n) != 0) {
            n++;
        }
        return n;
    }

    private static int lastName(int path) {
        int n = namesIn(path);
        return n == 0 ? 0 : nameAt(path, n - 1);
    }

    private static boolean beginsWith(int path, int first) {
        return (path & (1 << 4 * namesIn(first)) - 1) == first;
    }

    /** The item that the first n names of a path lead to, or why there is none; the root has no holder (-1). */
    private int walk(int p, int path, int n) {
        if (n < 0) {
            return REFUSED;
        }
        int at = ROOT;
        for (int k = 0; k < n && k < NAMES; k++) {
            at = lookFor(p, at, nameAt(path, k));
            if (at < 0) {
                return at;
            }
        }
        return at;
    }

    /** The item under a name, or why there is none: MISSING means that only the name is not there. */
    private int lookFor(int p, int i, int name) {
        if (!meets(p, i, READING)) {
            return FAILED;
        }
        Item seen = seenBy(p, i);
        if (seen.kind != DIRECTORY) {
            return REFUSED;
        }
        int k = seen.entryOf(name);
        return k == NONE ? MISSING : seen.targets[k];
    }

    /** The item in which the last name of a path is free, or why there is none. */
    private int walkToFreeName(int p, int path) {
        int holder = walk(p, path, namesIn(path) - 1);
        if (holder < 0) {
            return holder;
        }
        int found = lookFor(p, holder, lastName(path));
        if (found >= 0) {
            return REFUSED;
        }
        return found == MISSING ? holder : found;
    }

    /** Whether a holder, met as one that is written, has room for an entry more. */
    private int meetsWithRoom(int p, int holder) {
        if (!meets(p, holder, WRITING)) {
            return FAILED;
        }
        return seenBy(p, holder).length < ENTRIES ? OK : FULL;
    }

    private int measure(int p, int path) {
        int found = walk(p, path, namesIn(path));
        if (found < 0) {
            return found;
        }
        if (!meets(p, found, READING)) {
            return FAILED;
        }
        return reply(seenBy(p, found).length);
    }

    /** Makes a file or directory with its entry: the item, or why there is none. */
    private int makeIn(int p, int holder, int name, int kind) {
        int made = leastFreeItem(1, FIRST_PIPE);
        if (made < 0) {
            return FULL;
        }
        int state = meetsWithRoom(p, holder);
        if (state != OK) {
            return state;
        }
        Item fresh = copyFor(p, made);
        fresh.become(kind);
        fresh.links = kind == FILE ? 1 : 0;
        copyFor(p, holder).addEntry(name, made);
        return made;
    }

    private int makeDirectory(int p, int path) {
        int holder = walkToFreeName(p, path);
        if (holder < 0) {
            return holder;
        }
        int made = makeIn(p, holder, lastName(path), DIRECTORY);
        return made < 0 ? made : reply(made);
    }

    private int addLink(int p, int path, int to) {
        int file = walk(p, path, namesIn(path));
        if (file < 0) {
            return file;
        }
        if (seenBy(p, file).kind == DIRECTORY) {
            return REFUSED;
        }
        int holder = walkToFreeName(p, to);
        if (holder < 0) {
            return holder;
        }
        int state = meetsWithRoom(p, holder);
        if (state != OK) {
            return state;
        }
        if (!meets(p, file, WRITING)) {
            return FAILED;
        }
        copyFor(p, holder).addEntry(lastName(to), file);
        Item linked = copyFor(p, file);
        linked.links++;
        return reply(linked.links);
    }

    private int removeEntry(int p, int path) {
        int holder = walk(p, path, namesIn(path) - 1);
        if (holder < 0) {
            return holder;
        }
        int found = lookFor(p, holder, lastName(path));
        if (found < 0) {
            return found;
        }
        if (seenBy(p, found).kind == DIRECTORY) {
            if (!meets(p, found, READING)) {
                return FAILED;
            }
            if (seenBy(p, found).length > 0) {
                return REFUSED;
            }
        }
        if (!meets(p, holder, WRITING) || !meets(p, found, WRITING)) {
            return FAILED;
        }
        copyFor(p, holder).removeEntry(lastName(path));
        return reply(loseLink(copyFor(p, found)));
    }

    private static int loseLink(Item unlinked) {
        if (unlinked.kind == DIRECTORY) {
            unlinked.become(FREE);
            return 0;
        }
        unlinked.links--;
        return unlinked.links;
    }

    private int moveEntry(int p, int path, int to) {
        if (beginsWith(to, path)) {
            return REFUSED;
        }
        int holder = walk(p, path, namesIn(path) - 1);
        if (holder < 0) {
            return holder;
        }
        int found = lookFor(p, holder, lastName(path));
        if (found < 0) {
            return found;
        }
        int other = walkToFreeName(p, to);
        if (other < 0) {
            return other;
        }
        if (!meets(p, holder, WRITING) || !meets(p, other, WRITING)) {
            return FAILED;
        }
        if (other != holder && seenBy(p, other).length >= ENTRIES) {
            return FULL;
        }
        copyFor(p, holder).removeEntry(lastName(path));
        copyFor(p, other).addEntry(lastName(to), found);
        return reply(found);
    }

    // ---- Descriptors ----

    private int openFile(int p, int path, int how) {
        int holder = walk(p, path, namesIn(path) - 1);
        if (holder < 0) {
            return holder;
        }
        int found = lookFor(p, holder, lastName(path));
        boolean makes = found == MISSING && how > 0;
        if (found < 0 && !makes) {
            return found;
        }
        if (!makes && (how == 2 || seenBy(p, found).kind == DIRECTORY)) {
            return REFUSED;
        }
        Table table = processes[p].table;
        int d = table.leastFree(0);
        if (d == NONE) {
            return FULL;
        }
        int file = makes ? makeIn(p, holder, lastName(path), FILE) : found;
        if (file < 0) {
            return file;
        }
        table.put(d, file, 0);
        return reply(d);
    }

    private int closeDescriptor(int p, int d) {
        processes[p].table.put(d, NONE, NONE);
        return reply(1);
    }

    private int readFrom(int p, int d) {
        return processes[p].table.isPipe(d) ? readPipe(p, d) : readFile(p, d);
    }

    private int readFile(int p, int d) {
        Table table = processes[p].table;
        int file = table.items[d];
        if (!meets(p, file, READING)) {
            return FAILED;
        }
        Item seen = seenBy(p, file);
        int place = table.places[d];
        if (place >= seen.length) {
            return MISSING;
        }
        table.places[d]++;
        return reply(seen.cells[place]);
    }

    private int readPipe(int p, int d) {
        Table table = processes[p].table;
        int pipe = table.items[d];
        if (table.places[d] != TO_READ) {
            return REFUSED;
        }
        if (!meets(p, pipe, WRITING)) {
            return FAILED;
        }
        if (seenBy(p, pipe).length == 0) {
            return MISSING;
        }
        return reply(copyFor(p, pipe).removeFirst());
    }

    /** The item is met before anything else is looked at, even before which end of a pipe it is. */
    private int writeTo(int p, int d, int v) {
        Table table = processes[p].table;
        if (!meets(p, table.items[d], WRITING)) {
            return FAILED;
        }
        return table.isPipe(d) ? writePipe(p, d, v) : writeFile(p, d, v);
    }

    private int writeFile(int p, int d, int v) {
        Table table = processes[p].table;
        int place = table.places[d];
        if (place >= CELLS) {
            return FULL;
        }
        Item file = copyFor(p, table.items[d]);
        if (file.length <= place) {
            file.resize(place + 1);
        }
        file.cells[place] = v;
        table.places[d]++;
        return reply(file.length);
    }

    private int writePipe(int p, int d, int v) {
        Table table = processes[p].table;
        if (table.places[d] != TO_WRITE) {
            return REFUSED;
        }
        if (seenBy(p, table.items[d]).length >= PIPE_INTS) {
            return FULL;
        }
        Item pipe = copyFor(p, table.items[d]);
        pipe.addCell(v);
        return reply(pipe.length);
    }

    private int movePlace(int p, int d, int n) {
        Table table = processes[p].table;
        if (table.isPipe(d)) {
            return REFUSED;
        }
        reply(table.places[d]);
        table.places[d] = n;
        return OK;
    }

    private int resizeFile(int p, int d, int n) {
        Table table = processes[p].table;
        if (table.isPipe(d)) {
            return REFUSED;
        }
        if (!meets(p, table.items[d], WRITING)) {
            return FAILED;
        }
        Item file = copyFor(p, table.items[d]);
        reply(file.length);
        file.resize(n);
        return OK;
    }

    private int makePipe(int p) {
        Table table = processes[p].table;
        int toRead = table.leastFree(0);
        int toWrite = toRead == NONE ? NONE : table.leastFree(toRead + 1);
        int made = leastFreeItem(FIRST_PIPE, ITEMS);
        if (toWrite == NONE || made < 0) {
            return FULL;
        }
        copyFor(p, made).become(PIPE);
        table.put(toRead, made, TO_READ);
        table.put(toWrite, made, TO_WRITE);
        return reply(toRead + 8 * toWrite);
    }

    // ---- Processes and signals ----

    private int processesThere() {
        int n = 0;
        for (int p = 0; p < PROCESSES; p++) {
            n += processes[p].there ? 1 : 0;
        }
        return n;
    }

    private int transactionsRunning() {
        int n = 0;
        for (int p = 0; p < PROCESSES; p++) {
            n += processes[p].own.running ? 1 : 0;
        }
        return n;
    }

    private int makeProcess(int p) {
        if (processes[p].own.running) {
            return REFUSED;
        }
        for (int q = 0; q < PROCESSES; q++) {
            if (!processes[q].there) {
                processes[q].reset(true);
                processes[q].table.copyFrom(processes[p].table);
                return reply(q);
            }
        }
        return FULL;
    }

    private int removeProcess(int p) {
        if (processes[p].own.running || p == 0) {
            return REFUSED;
        }
        processes[p].reset(false);
        return reply(processesThere());
    }

    private int sendSignal(int p, int q, int n) {
        Transaction own = processes[p].own;
        if (own.running) {
            return own.keepSignal(q, n) ? reply(1) : FULL;
        }
        if (!processes[q].there) {
            return MISSING;
        }
        if (processes[q].signalCount >= SIGNALS) {
            return FULL;
        }
        processes[q].addSignal(n);
        return reply(1);
    }

    private int takeSignal(int p) {
        if (processes[p].signalCount == 0) {
            return MISSING;
        }
        return reply(processes[p].removeSignal());
    }

    /** What an item holds: the cells of a file, the ints of a pipe, or the names of a directory. */
    private static final class Item {
        private int kind = FREE;
        private int links = 0;
        private int length = 0;
        private final int[] cells = new int[CELLS];
        private final int[] targets = new int[ENTRIES];

        private void become(int newKind) {
            kind = newKind;
            links = 0;
            length = 0;
        }

        private void copyFrom(Item other) {
            kind = other.kind;
            links = other.links;
            length = other.length;
            System.arraycopy(other.cells, 0, cells, 0, CELLS);
            System.arraycopy(other.targets, 0, targets, 0, ENTRIES);
        }

        private void resize(int n) {
            for (int k = length; k < n && k < CELLS; k++) {
                cells[k] = 0;
            }
            length = n;
        }

        private void addCell(int v) {
            if (length < CELLS) {
                cells[length] = v;
                length++;
            }
        }

        private int removeFirst() {
            int first = cells[0];
            for (int k = 1; k < length && k < CELLS; k++) {
                cells[k - 1] = cells[k];
            }
            length--;
            return first;
        }

        private int entryOf(int name) {
            for (int k = 0; k < length && k < ENTRIES; k++) {
                if (cells[k] == name) {
                    return k;
                }
            }
            return NONE;
        }

        private void addEntry(int name, int target) {
            if (length < ENTRIES) {
                targets[length] = target;
                addCell(name);
            }
        }

        private void removeEntry(int name) {
            int gone = entryOf(name);
            if (gone == NONE) {
                return;
            }
            for (int k = gone + 1; k < length && k < ENTRIES; k++) {
                cells[k - 1] = cells[k];
                targets[k - 1] = targets[k];
            }
            length--;
        }
    }

    /** The descriptors of a process. */
    private static final class Table {
        private final int[] items = new int[DESCRIPTORS];
        private final int[] places = new int[DESCRIPTORS];

        private void empty() {
            for (int d = 0; d < DESCRIPTORS; d++) {
                put(d, NONE, NONE);
            }
        }

        private void copyFrom(Table other) {
            for (int d = 0; d < DESCRIPTORS; d++) {
                items[d] = other.items[d];
                places[d] = other.places[d];
            }
        }

        private void put(int d, int i, int place) {
            items[d] = i;
            places[d] = place;
        }

        private int leastFree(int from) {
            for (int d = from; d < DESCRIPTORS; d++) {
                if (items[d] == NONE) {
                    return d;
                }
            }
            return NONE;
        }

        private boolean isPipe(int d) {
            return items[d] >= FIRST_PIPE;
        }

        private boolean names(int i) {
            for (int d = 0; d < DESCRIPTORS; d++) {
                if (items[d] == i) {
                    return true;
                }
            }
            return false;
        }
    }

    /** A transaction; one that runs with depth 0 is that of a call outside of any. */
    private static final class Transaction {
        private boolean running = false;
        private int depth = 0;
        private int began = 0;
        private final boolean[] read = new boolean[ITEMS];
        private final boolean[] wrote = new boolean[ITEMS];
        private final Item[] copies = new Item[ITEMS];
        private final Table before = new Table();
        private final int[] signalTo = new int[SIGNALS];
        private final int[] signals = new int[SIGNALS];
        private int signalCount = 0;

        private Transaction() {
            for (int i = 0; i < ITEMS; i++) {
                copies[i] = new Item();
            }
        }

        private void start(int number, Table table) {
            running = true;
            began = number;
            before.copyFrom(table);
        }

        private void stop() {
            running = false;
            depth = 0;
            signalCount = 0;
            for (int i = 0; i < ITEMS; i++) {
                read[i] = false;
                wrote[i] = false;
            }
        }

        /** Whether another's use of an item is met by this one. */
        private boolean minds(int i, boolean writing) {
            return running && (wrote[i] || writing && read[i]);
        }

        private int wroteOnDisk() {
            int n = 0;
            for (int i = 0; i < FIRST_PIPE; i++) {
                n += wrote[i] ? 1 : 0;
            }
            return n;
        }

        private boolean keepSignal(int to, int n) {
            if (signalCount >= SIGNALS) {
                return false;
            }
            signalTo[signalCount] = to;
            signals[signalCount] = n;
            signalCount++;
            return true;
        }
    }

    /** A process, there or not. */
    private static final class ProcessState {
        private boolean there = false;
        private boolean told = false;
        private final Table table = new Table();
        private final int[] signals = new int[SIGNALS];
        private int signalCount = 0;
        private final Transaction own = new Transaction();

        private ProcessState() {
            table.empty();
        }

        private void reset(boolean isThere) {
            there = isThere;
            told = false;
            signalCount = 0;
            table.empty();
            own.stop();
        }

        private void addSignal(int n) {
            if (signalCount < SIGNALS) {
                signals[signalCount] = n;
                signalCount++;
            }
        }

        private int removeSignal() {
            int first = signals[0];
            for (int k = 1; k < signalCount && k < SIGNALS; k++) {
                signals[k - 1] = signals[k];
            }
            signalCount--;
            return first;
        }
    }
}
