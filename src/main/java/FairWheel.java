import java.util.Arrays;

/**
 * A small kernel's scheduler on a driven clock, with a row for each choice that a replay can check.
 * The words of the document (TASK, RANK, STANDING, TICK, ROW ..) are used as it tells them.
 */
public final class FairWheel {
    private static final int MAX_TASKS = 200;
    private static final int MAX_PROGRAMS = 32;
    private static final int MAX_BYTES = 1000;
    private static final int MAX_SHARE = 1000;
    private static final int MAX_PERIOD = 1000;
    private static final int MAX_PROCESSORS = 4;
    private static final int MAX_LOCKS = 100;
    private static final int MAX_BELLS = 16;
    private static final int MAX_TICKS = 1000;
    private static final int MAX_ROWS = 8000;
    private static final int MAX_NOTES = 1000;
    private static final int MAX_SHORTS = 127;
    private static final int BODIES = 12;

    private static final int NONE = -1;

    // KINDS
    private static final int FAIR = 0;
    private static final int DEADLINE = 1;
    private static final int SERVER = 2;
    private static final int BATCH = 3;
    private static final int IDLE = 4;

    // what a TASK does, as about(t, 6) tells it
    private static final int READY = 0;
    private static final int WAITS_LOCK = 1;
    private static final int WAITS_BELL = 2;
    private static final int SLEEPS = 3;
    private static final int ENDED = 4;

    // what holder(l) tells besides a TASK
    private static final int FREE = -1;
    private static final int NOT_THERE = -2;

    // what an ACT comes to, if it does not end the TASK; else it is the FAULT's number
    private static final int GOES_ON = -1;
    private static final int STOPS = -2;

    // FAULTS; NO_FAULT ends a TASK too, by byte 0
    private static final int NO_FAULT = 0;
    private static final int NO_PROGRAM = 1;
    private static final int BEYOND = 2;
    private static final int OTHER_KIND = 3;
    private static final int BELOW_ZERO = 4;
    private static final int NO_FAILURE = 5;
    private static final int FAILURE = 6;
    private static final int NO_LOCK = 7;
    private static final int NO_SHORTS = 8;
    private static final int NOT_IN_SHORTS = 9;
    private static final int SENSELESS = 10;
    private static final int UNFIT = 11;
    private static final int RING = 12;

    // why a call was refused
    private static final int WRONG_NUMBER = 1;
    private static final int NO_ROOM = 2;
    private static final int NO_TASK = 3;
    private static final int WRONG_KIND = 4;
    private static final int NOTES_FULL = 5;

    // which call a note is of
    private static final int NOTE_PROGRAM = 0;
    private static final int NOTE_TASK = 1;
    private static final int NOTE_SHARE = 2;
    private static final int NOTE_DEADLINE = 3;
    private static final int NOTE_PROCESSORS = 4;
    private static final int NOTE_LOCK = 5;
    private static final int NOTE_RING = 6;
    private static final int NOTE_RUN = 7;

    // BODIES that are counted (8, Early.hurry, never runs)
    private static final int FAIR_PAYS = 0;
    private static final int SERVER_PAYS = 1;
    private static final int IDLE_PAYS = 2;
    private static final int JOB_WAITS = 3;
    private static final int BATCH_WAITS = 4;
    private static final int SERVER_WAITS = 5;
    private static final int PAYS_SPENDS = 6;
    private static final int DEADLINE_SPENDS = 7;
    private static final int FAIR_HURRY = 9;
    private static final int LENDS_TAKES = 10;
    private static final int IDLE_TAKES = 11;

    // A RANK is one long, so that ahead is the same as less: the CLASS, 40 bits of KEY, 8 bits of number.
    private static final int CLASS_SHIFT = 48;
    private static final int KEY_SHIFT = 8;
    private static final long KEY_MASK = (1L << (CLASS_SHIFT - KEY_SHIFT)) - 1;
    private static final long NUMBER_MASK = (1L << KEY_SHIFT) - 1;

    private final Kernel live = new Kernel();
    private final Notes notes = new Notes();
    // Made when first needed and used again, as nothing that a run makes is given back.
    private Kernel replay = null;
    private Kernel kept = null;
    private Notes keptNotes = null;
    private int refusal = 0;
    private int checkClock = NONE;

    public FairWheel() {
    }

    public int program(int p, long eight, int n) {
        Program own = live.programAt(p);
        if (own == null || n < 0 || n > 8) {
            return refused(WRONG_NUMBER);
        }
        if (own.length() + n > MAX_BYTES) {
            return refused(NO_ROOM);
        }
        return noted(NOTE_PROGRAM, p, eight, n) ? own.extend(eight, n) : NONE;
    }

    public int task(int kind, int program, int share) {
        if (kind < FAIR || kind > IDLE || program < 0 || program >= MAX_PROGRAMS || !isShare(share)) {
            return refused(WRONG_NUMBER);
        }
        if (live.taskCount >= MAX_TASKS) {
            return refused(NO_ROOM);
        }
        return noted(NOTE_TASK, kind, program, share) ? live.addTask(kind, program, share) : NONE;
    }

    public int share(int t, int s) {
        Task task = live.unendedTask(t);
        if (task == null) {
            return refused(NO_TASK);
        }
        if (!isShare(s)) {
            return refused(WRONG_NUMBER);
        }
        return noted(NOTE_SHARE, t, s, 0) ? task.changeShare(s) : NONE;
    }

    public boolean deadline(int t, int period, int budget) {
        Task task = live.unendedTask(t);
        int why = 0;
        if (task == null) {
            why = NO_TASK;
        } else if (!task.hasDeadline()) {
            why = WRONG_KIND;
        } else if (period < 1 || period > MAX_PERIOD || budget < 0 || budget > period) {
            why = WRONG_NUMBER;
        }
        if (task == null || why != 0) {
            refused(why);
            return false;
        }
        if (!noted(NOTE_DEADLINE, t, period, budget)) {
            return false;
        }
        task.startPeriod(period, budget, live.clock);
        return true;
    }

    public int processors(int n) {
        if (n < 1 || n > MAX_PROCESSORS) {
            return refused(WRONG_NUMBER);
        }
        return noted(NOTE_PROCESSORS, n, 0, 0) ? live.changeProcessors(n) : NONE;
    }

    public boolean lock(int l) {
        if (l < 0 || l >= MAX_LOCKS) {
            refused(WRONG_NUMBER);
            return false;
        }
        if (live.holderOf(l) != NOT_THERE) {
            refused(NO_ROOM);
            return false;
        }
        if (!noted(NOTE_LOCK, l, 0, 0)) {
            return false;
        }
        live.addLock(l);
        return true;
    }

    public int ring(int b) {
        if (b < 0 || b >= MAX_BELLS) {
            return refused(WRONG_NUMBER);
        }
        return noted(NOTE_RING, b, 0, 0) ? live.ringBell(b) : NONE;
    }

    public int run(int n) {
        if (n < 0 || n > MAX_TICKS) {
            return refused(WRONG_NUMBER);
        }
        return noted(NOTE_RUN, n, 0, 0) ? live.goOn(n) : NONE;
    }

    public int chosen(int processor) {
        return processor >= 0 && processor < MAX_PROCESSORS ? live.chosen[processor] : NONE;
    }

    public int about(int t, int what) {
        Task task = live.taskAt(t);
        return task == null ? NONE : task.tell(what);
    }

    public long virtual(int t) {
        Task task = live.taskAt(t);
        return task == null ? NONE : task.virtual;
    }

    public int small(int t, int i) {
        Task task = live.taskAt(t);
        return task == null ? 0 : task.shortAt(i);
    }

    public long standing(int t, int what) {
        Task task = live.unendedTask(t);
        if (task == null) {
            return NONE;
        }
        live.settle();
        switch (what) {
            case 0:
                return classOf(task.standing);
            case 1:
                return keyOf(task.standing);
            case 2:
                return numberOf(task.standing);
            default:
                return NONE;
        }
    }

    public int holder(int l) {
        return live.holderOf(l);
    }

    public int ringed(int k) {
        return k >= 0 && k < live.ringSize ? live.ringTasks[k] : NONE;
    }

    public int row(int k, int what) {
        return live.rows.has(k, what) ? live.rows.get(k, what) : NONE;
    }

    public boolean forge(int k, int what, int by) {
        if (!live.rows.has(k, what)) {
            refused(WRONG_NUMBER);
            return false;
        }
        live.rows.grow(k, what, by);
        refusal = 0;
        return true;
    }

    public int check() {
        if (replay == null) {
            replay = new Kernel();
        }
        replay.clear();
        for (int k = 0; k < notes.size; k++) {
            redo(k, replay);
        }
        int unlike = live.rows.firstUnlike(replay.rows);
        checkClock = replay.rows.has(unlike, 0) ? replay.rows.get(unlike, 0) : replay.clock;
        return unlike;
    }

    public int checkedTo() {
        return checkClock;
    }

    public long bound(int t) {
        Task task = live.taskAt(t);
        return task == null || task.state != READY ? NONE : live.ticksUntilChosen(task);
    }

    public int trace(int body) {
        return body >= 0 && body < BODIES ? live.ran[body] : NONE;
    }

    public int count(int what) {
        switch (what) {
            case 0:
                return live.clock;
            case 1:
                return live.taskCount;
            case 2:
                return live.taskCount - live.howMany(ENDED);
            case 3:
                return live.howMany(READY);
            case 4:
                return live.rows.size;
            case 5:
                return live.processors;
            case 6:
                return live.ringsRefused;
            case 7:
                return notes.size;
            default:
                return NONE;
        }
    }

    public long image() {
        if (kept == null) {
            kept = new Kernel();
        }
        if (keptNotes == null) {
            keptNotes = new Notes();
        }
        kept.become(live);
        keptNotes.become(notes);
        return kept.summed();
    }

    public boolean load() {
        if (kept == null || keptNotes == null) {
            refused(NO_ROOM);
            return false;
        }
        live.become(kept);
        notes.become(keptNotes);
        refusal = 0;
        return true;
    }

    public long digest() {
        return live.summed();
    }

    public int status() {
        return refusal;
    }

    private int refused(int why) {
        refusal = why;
        return NONE;
    }

    /** Asked last by every call that is noted: whether there is a place for its note, which is taken. */
    private boolean noted(int call, long a, long b, long c) {
        boolean fits = notes.add(call, a, b, c);
        refusal = fits ? 0 : NOTES_FULL;
        return fits;
    }

    /** Does what note k tells once more. It was not refused then, so another kernel can take it too. */
    private void redo(int k, Kernel kernel) {
        int a = (int) notes.get(k, 1);
        int b = (int) notes.get(k, 2);
        int c = (int) notes.get(k, 3);
        Task task = kernel.taskAt(a);
        Program own = kernel.programAt(a);
        switch ((int) notes.get(k, 0)) {
            case NOTE_PROGRAM:
                if (own != null) {
                    own.extend(notes.get(k, 2), c);
                }
                break;
            case NOTE_TASK:
                kernel.addTask(a, b, c);
                break;
            case NOTE_SHARE:
                if (task != null) {
                    task.changeShare(b);
                }
                break;
            case NOTE_DEADLINE:
                if (task != null) {
                    task.startPeriod(b, c, kernel.clock);
                }
                break;
            case NOTE_PROCESSORS:
                kernel.changeProcessors(a);
                break;
            case NOTE_LOCK:
                kernel.addLock(a);
                break;
            case NOTE_RING:
                kernel.ringBell(a);
                break;
            case NOTE_RUN:
                kernel.goOn(a);
                break;
            default:
                break;
        }
    }

    private static boolean isShare(int s) {
        return s >= 1 && s <= MAX_SHARE;
    }

    private static int classOf(long rank) {
        return (int) (rank >> CLASS_SHIFT);
    }

    private static long keyOf(long rank) {
        return rank >> KEY_SHIFT & KEY_MASK;
    }

    private static int numberOf(long rank) {
        return (int) (rank & NUMBER_MASK);
    }

    /** One TASK. The kernel has all of them from the beginning on, and begins them one by one. */
    private static final class Task {
        private final int number;
        private int kind = FAIR;
        private int program = 0;
        private int share = 1;
        private long virtual = 0;
        private int rest = 0;
        private int work = 0;
        private int place = 0;
        private int state = READY;
        private int waitsFor = NONE;
        private int until = NONE;
        private int fault = NO_FAULT;
        private int period = 100;
        private int budget = 0;
        private int deadline = 0;
        private int left = 0;
        private int shortCount = NONE;
        private short[] shorts = null;
        // Right only behind Kernel.settle().
        private long standing = 0;

        private Task(int number) {
            this.number = number;
        }

        private void begin(int ofKind, int ofProgram, int ofShare, long atVirtual) {
            kind = ofKind;
            program = ofProgram;
            share = ofShare;
            virtual = atVirtual;
            rest = 0;
            work = 0;
            place = 0;
            state = READY;
            waitsFor = NONE;
            until = NONE;
            fault = NO_FAULT;
            shortCount = NONE;
        }

        private void startPeriod(int newPeriod, int newBudget, int clock) {
            period = newPeriod;
            budget = newBudget;
            deadline = clock + newPeriod;
            left = newBudget;
        }

        private void become(Task other) {
            begin(other.kind, other.program, other.share, other.virtual);
            rest = other.rest;
            work = other.work;
            place = other.place;
            state = other.state;
            waitsFor = other.waitsFor;
            until = other.until;
            fault = other.fault;
            period = other.period;
            budget = other.budget;
            deadline = other.deadline;
            left = other.left;
            if (other.shortCount >= 0) {
                makeShorts(other.shortCount);
            }
            for (int i = 0; i < other.shortCount; i++) {
                setShort(i, other.shortAt(i));
            }
        }

        private boolean hasDeadline() {
            return kind == DEADLINE || kind == SERVER;
        }

        private boolean isOf(int n) {
            return n == FAIR || n == kind || n == DEADLINE && kind == SERVER || n == BATCH && kind == IDLE;
        }

        /** Only Deadline and Server ones ever have something LEFT. */
        private long rank() {
            if (left > 0) {
                return ((long) deadline << KEY_SHIFT) + number;
            }
            return (1L << CLASS_SHIFT) + (virtual << KEY_SHIFT) + number;
        }

        private int changeShare(int s) {
            int was = share;
            share = s;
            rest = Math.min(rest, s - 1);
            return was;
        }

        private void payOnce() {
            if (share > 0) {
                int due = 1000 + rest;
                virtual += due / share;
                rest = due % share;
            }
        }

        /** F of the document: REST is carried on, so F payments raise VIRTUAL by (1,000 F + REST) / SHARE. */
        private long paymentsBehind(long other) {
            long aim = keyOf(other) + (number > numberOf(other) ? 0 : 1);
            return virtual >= aim ? 0 : ((aim - virtual) * share - rest + 999) / 1000;
        }

        private void wake() {
            state = READY;
            waitsFor = NONE;
            until = NONE;
        }

        private void makeShorts(int n) {
            if (shorts == null) {
                shorts = new short[MAX_SHORTS];
            }
            Arrays.fill(shorts, (short) 0);
            shortCount = n;
        }

        private boolean hasShort(int i) {
            return shorts != null && i >= 0 && i < shortCount && i < shorts.length;
        }

        private int shortAt(int i) {
            return hasShort(i) ? shorts[i] : 0;
        }

        private void setShort(int i, int x) {
            if (hasShort(i)) {
                shorts[i] = (short) x;
            }
        }

        private int tell(int what) {
            switch (what) {
                case 0:
                    return kind;
                case 1:
                    return program;
                case 2:
                    return share;
                case 3:
                    return rest;
                case 4:
                    return work;
                case 5:
                    return place;
                case 6:
                    return state;
                case 7:
                    return waitsFor;
                case 8:
                    return until;
                case 9:
                    return fault;
                case 10:
                    return hasDeadline() ? period : NONE;
                case 11:
                    return hasDeadline() ? budget : NONE;
                case 12:
                    return hasDeadline() ? deadline : NONE;
                case 13:
                    return hasDeadline() ? left : NONE;
                case 14:
                    return shortCount;
                default:
                    return NONE;
            }
        }
    }

    /** One PROGRAM's bytes; a size of -1 says that it is not there. */
    private static final class Program {
        private int size = NONE;
        private byte[] bytes = new byte[32];

        private void become(Program other) {
            if (bytes.length < other.bytes.length) {
                bytes = new byte[other.bytes.length];
            }
            size = other.size;
            System.arraycopy(other.bytes, 0, bytes, 0, Math.max(0, size));
        }

        private int length() {
            return Math.max(0, size);
        }

        private int byteAt(int place) {
            return place >= 0 && place < size ? bytes[place] : 0;
        }

        private int extend(long eight, int n) {
            int was = length();
            if (n < 0 || n > 8 || was + n > MAX_BYTES) {
                return NONE;
            }
            if (was + n > bytes.length) {
                bytes = Arrays.copyOf(bytes, Math.min(2 * bytes.length, MAX_BYTES));
            }
            for (int i = 0; i < n; i++) {
                bytes[was + i] = (byte) (eight >>> 56 - 8 * i);
            }
            size = was + n;
            return size;
        }
    }

    /** The ROWS, five numbers each, in an array that grows by doubling. */
    private static final class Rows {
        private static final int WIDTH = 5;
        private static final int PLACES_FOR_A_TICK = 4;
        private int size = 0;
        private int[] cells = new int[64 * WIDTH];

        private void become(Rows other) {
            if (cells.length < other.cells.length) {
                cells = new int[other.cells.length];
            }
            System.arraycopy(other.cells, 0, cells, 0, other.size * WIDTH);
            size = other.size;
        }

        private boolean haveRoom() {
            return MAX_ROWS - size >= PLACES_FOR_A_TICK;
        }

        private boolean has(int k, int what) {
            return k >= 0 && k < size && what >= 0 && what < WIDTH;
        }

        private int get(int k, int what) {
            return has(k, what) ? cells[k * WIDTH + what] : NONE;
        }

        private void grow(int k, int what, int by) {
            if (has(k, what)) {
                cells[k * WIDTH + what] += by;
            }
        }

        private void add(int clock, int processor, int task, int rankClass, int key) {
            if (size >= MAX_ROWS) {
                return;
            }
            int at = size * WIDTH;
            if (at + WIDTH > cells.length) {
                cells = Arrays.copyOf(cells, Math.min(2 * cells.length, MAX_ROWS * WIDTH));
            }
            cells[at] = clock;
            cells[at + 1] = processor;
            cells[at + 2] = task;
            cells[at + 3] = rankClass;
            cells[at + 4] = key;
            size++;
        }

        private int firstUnlike(Rows other) {
            int both = Math.min(size, other.size);
            for (int i = 0; i < both * WIDTH; i++) {
                if (cells[i] != other.cells[i]) {
                    return i / WIDTH;
                }
            }
            return size == other.size ? NONE : both;
        }

        private long summed(long d) {
            long sum = d;
            for (int i = 0; i < size * WIDTH; i++) {
                sum = sum * 31 + cells[i];
            }
            return sum;
        }
    }

    /** The calls that told the kernel something, with their arguments, for check() to do once more. */
    private static final class Notes {
        private static final int WIDTH = 4;
        private int size = 0;
        private long[] cells = new long[64 * WIDTH];

        private void become(Notes other) {
            if (cells.length < other.cells.length) {
                cells = new long[other.cells.length];
            }
            System.arraycopy(other.cells, 0, cells, 0, other.size * WIDTH);
            size = other.size;
        }

        private boolean add(int call, long a, long b, long c) {
            if (size >= MAX_NOTES) {
                return false;
            }
            int at = size * WIDTH;
            if (at + WIDTH > cells.length) {
                cells = Arrays.copyOf(cells, Math.min(2 * cells.length, MAX_NOTES * WIDTH));
            }
            cells[at] = call;
            cells[at + 1] = a;
            cells[at + 2] = b;
            cells[at + 3] = c;
            size++;
            return true;
        }

        private long get(int k, int what) {
            return k >= 0 && k < size && what >= 0 && what < WIDTH ? cells[k * WIDTH + what] : 0;
        }
    }

    /** All that a TICK reads and changes. */
    private static final class Kernel {
        private final Task[] tasks = new Task[MAX_TASKS];
        private final Program[] programs = new Program[MAX_PROGRAMS];
        private final Rows rows = new Rows();
        private final int[] holders = new int[MAX_LOCKS];
        private final int[] chosen = new int[MAX_PROCESSORS];
        private final int[] ringTasks = new int[MAX_TASKS];
        private final int[] ran = new int[BODIES];
        private int taskCount = 0;
        private int clock = 0;
        private int processors = 1;
        private int ringSize = 0;
        private int ringsRefused = 0;

        private Kernel() {
            for (int i = 0; i < MAX_TASKS; i++) {
                tasks[i] = new Task(i);
            }
            for (int p = 0; p < MAX_PROGRAMS; p++) {
                programs[p] = new Program();
            }
            Arrays.fill(holders, NOT_THERE);
            Arrays.fill(chosen, NONE);
        }

        private void clear() {
            for (int p = 0; p < MAX_PROGRAMS; p++) {
                programs[p].size = NONE;
            }
            rows.size = 0;
            Arrays.fill(holders, NOT_THERE);
            Arrays.fill(chosen, NONE);
            Arrays.fill(ran, 0);
            taskCount = 0;
            clock = 0;
            processors = 1;
            ringSize = 0;
            ringsRefused = 0;
        }

        private void become(Kernel other) {
            for (int i = 0; i < other.taskCount; i++) {
                tasks[i].become(other.tasks[i]);
            }
            for (int p = 0; p < MAX_PROGRAMS; p++) {
                programs[p].become(other.programs[p]);
            }
            rows.become(other.rows);
            System.arraycopy(other.holders, 0, holders, 0, MAX_LOCKS);
            System.arraycopy(other.chosen, 0, chosen, 0, MAX_PROCESSORS);
            System.arraycopy(other.ringTasks, 0, ringTasks, 0, MAX_TASKS);
            System.arraycopy(other.ran, 0, ran, 0, BODIES);
            taskCount = other.taskCount;
            clock = other.clock;
            processors = other.processors;
            ringSize = other.ringSize;
            ringsRefused = other.ringsRefused;
        }

        private Task taskAt(int t) {
            return t >= 0 && t < taskCount ? tasks[t] : null;
        }

        private Task unendedTask(int t) {
            Task task = taskAt(t);
            return task == null || task.state == ENDED ? null : task;
        }

        private Program programAt(int p) {
            return p >= 0 && p < MAX_PROGRAMS ? programs[p] : null;
        }

        private int holderOf(int l) {
            return l >= 0 && l < MAX_LOCKS ? holders[l] : NOT_THERE;
        }

        private int howMany(int state) {
            int found = 0;
            for (int i = 0; i < taskCount; i++) {
                found += tasks[i].state == state ? 1 : 0;
            }
            return found;
        }

        private int addTask(int kind, int program, int share) {
            if (taskCount >= MAX_TASKS) {
                return NONE;
            }
            Task task = tasks[taskCount];
            task.begin(kind, program, share, leastVirtual());
            task.startPeriod(100, 0, clock);
            taskCount++;
            return task.number;
        }

        private long leastVirtual() {
            boolean found = false;
            long least = 0;
            for (int i = 0; i < taskCount; i++) {
                Task t = tasks[i];
                if (t.state != ENDED && (!found || t.virtual < least)) {
                    found = true;
                    least = t.virtual;
                }
            }
            return least;
        }

        private int changeProcessors(int n) {
            int were = processors;
            processors = n;
            return were;
        }

        private void addLock(int l) {
            if (l >= 0 && l < MAX_LOCKS) {
                holders[l] = FREE;
            }
        }

        private int ringBell(int b) {
            int woken = 0;
            for (int i = 0; i < taskCount; i++) {
                Task t = tasks[i];
                if (t.state == WAITS_BELL && t.waitsFor == b) {
                    t.wake();
                    woken++;
                }
            }
            return woken;
        }

        /** Up to n TICKS, those without anything to do at a leap: how many were done. */
        private int goOn(int n) {
            int done = 0;
            for (int i = 0; i < n && done < n && rows.haveRoom(); i++) {
                int quiet = quietTicks(n - done);
                if (quiet > 0) {
                    Arrays.fill(chosen, NONE);
                    clock += quiet;
                    done += quiet;
                } else {
                    wakeAndRefill();
                    choose();
                    for (int p = 0; p < MAX_PROCESSORS; p++) {
                        turn(taskAt(chosen[p]));
                    }
                    clock++;
                    done++;
                }
            }
            return done;
        }

        private int quietTicks(int most) {
            int next = clock + most;
            for (int i = 0; i < taskCount; i++) {
                Task t = tasks[i];
                if (t.state == READY) {
                    return 0;
                }
                if (t.state == SLEEPS) {
                    next = Math.min(next, t.until);
                }
                if (t.state != ENDED && t.hasDeadline()) {
                    next = Math.min(next, t.deadline);
                }
            }
            return next - clock;
        }

        private void wakeAndRefill() {
            for (int i = 0; i < taskCount; i++) {
                Task t = tasks[i];
                if (t.state == SLEEPS && t.until == clock) {
                    t.wake();
                }
                if (t.state != ENDED && t.hasDeadline() && t.deadline == clock) {
                    t.startPeriod(t.period, t.budget, clock);
                    ran[FAIR_HURRY]++;
                }
            }
        }

        private void choose() {
            settle();
            Arrays.fill(chosen, NONE);
            long latest = NONE;
            for (int p = 0; p < processors && p < MAX_PROCESSORS; p++) {
                Task t = foremostBehind(latest);
                if (t != null) {
                    latest = t.standing;
                    chosen[p] = t.number;
                    rows.add(clock, p, t.number, classOf(latest), (int) keyOf(latest));
                }
            }
        }

        /** No two READY TASKS have one STANDING: behind the one chosen last, none was chosen yet. */
        private Task foremostBehind(long standing) {
            Task foremost = null;
            for (int i = 0; i < taskCount; i++) {
                Task t = tasks[i];
                if (t.state == READY && t.standing > standing
                        && (foremost == null || t.standing < foremost.standing)) {
                    foremost = t;
                }
            }
            return foremost;
        }

        /**
         * Finds each STANDING: each who waits for a lock lends what it has to the holders up its chain,
         * till one has something as good, which that one's giver, or itself, brings further up.
         */
        private void settle() {
            for (int i = 0; i < taskCount; i++) {
                tasks[i].standing = tasks[i].rank();
            }
            for (int i = 0; i < taskCount; i++) {
                long lent = tasks[i].standing;
                Task holder = blockerOf(tasks[i]);
                for (int k = 0; k < MAX_TASKS && holder != null && holder.standing > lent; k++) {
                    holder.standing = lent;
                    holder = blockerOf(holder);
                }
            }
        }

        /** Who holds the lock that t waits for; null if it waits for none. */
        private Task blockerOf(Task t) {
            int l = t.state == WAITS_LOCK ? t.waitsFor : NONE;
            int holder = l >= 0 && l < MAX_LOCKS ? holders[l] : NONE;
            return holder >= 0 && holder < taskCount ? tasks[holder] : null;
        }

        private void turn(Task t) {
            if (t == null) {
                return;
            }
            pay(t);
            int outcome = GOES_ON;
            // Each ACT that goes on moves the PLACE, so a PROGRAM's length is far above what is needed.
            for (int i = 0; i <= MAX_BYTES && outcome == GOES_ON; i++) {
                outcome = act(t);
            }
            if (outcome >= NO_FAULT) {
                end(t, outcome);
            }
        }

        private void pay(Task t) {
            ran[t.hasDeadline() ? DEADLINE_SPENDS : PAYS_SPENDS]++;
            if (t.left > 0) {
                t.left--;
                if (t.kind == DEADLINE) {
                    return;
                }
            }
            if (t.kind == SERVER) {
                ran[SERVER_PAYS]++;
            }
            if (t.kind == IDLE) {
                ran[IDLE_PAYS]++;
                ran[FAIR_PAYS]++;
                t.payOnce();
            }
            ran[FAIR_PAYS]++;
            t.payOnce();
        }

        private void end(Task t, int fault) {
            t.state = ENDED;
            t.fault = fault;
            for (int l = 0; l < MAX_LOCKS; l++) {
                if (holders[l] == t.number) {
                    settle();
                    handOver(l);
                }
            }
        }

        /** STANDINGS are settled before. */
        private void handOver(int l) {
            Task next = null;
            for (int i = 0; i < taskCount; i++) {
                Task t = tasks[i];
                if (t.state == WAITS_LOCK && t.waitsFor == l && (next == null || t.standing < next.standing)) {
                    next = t;
                }
            }
            if (next == null) {
                holders[l] = FREE;
                return;
            }
            holders[l] = next.number;
            next.wake();
            ran[next.kind == IDLE ? IDLE_TAKES : LENDS_TAKES]++;
        }

        private int act(Task t) {
            if (t.work > 0) {
                t.work--;
                return STOPS;
            }
            Program own = programAt(t.program);
            int outcome = readable(own, t.place);
            if (own == null || outcome != GOES_ON) {
                return outcome;
            }
            int n = own.byteAt(t.place + 1);
            switch (own.byteAt(t.place)) {
                case 1:
                    t.work = Math.max(0, n);
                    break;
                case 2:
                    outcome = take(t, n);
                    break;
                case 3:
                    outcome = give(t, n);
                    break;
                case 4:
                    outcome = waitForBell(t, n);
                    break;
                case 5:
                    outcome = ringFrom(n);
                    break;
                case 6:
                    outcome = sleep(t, n);
                    break;
                case 7:
                    outcome = spawn(t, n);
                    break;
                case 8:
                    outcome = getShorts(t, n);
                    break;
                case 9:
                    outcome = stamp(t, n);
                    break;
                case 10:
                    outcome = claim(t, n);
                    break;
                case 11:
                    outcome = fail(n);
                    break;
                default:
                    outcome = workByShort(t, n);
                    break;
            }
            t.place += outcome < NO_FAULT ? 2 : 0;
            return outcome;
        }

        /** GOES_ON if the byte at a place can be done with the byte behind. */
        private int readable(Program own, int place) {
            if (own == null || own.size < 0) {
                return NO_PROGRAM;
            }
            if (place >= own.size) {
                return BEYOND;
            }
            int code = own.byteAt(place);
            if (code < 0 || code > 12) {
                return SENSELESS;
            }
            if (code == 0) {
                return NO_FAULT;
            }
            return place + 1 < own.size ? GOES_ON : BEYOND;
        }

        private int take(Task t, int n) {
            int holder = holderOf(n);
            if (holder == NOT_THERE) {
                return NO_LOCK;
            }
            if (holder == t.number) {
                return UNFIT;
            }
            if (holder == FREE) {
                holders[n] = t.number;
                return GOES_ON;
            }
            if (leadsTo(holder, t)) {
                keepRing(t, holder);
                return RING;
            }
            beginWait(t, WAITS_LOCK);
            t.waitsFor = n;
            return STOPS;
        }

        private boolean leadsTo(int holder, Task t) {
            Task at = taskAt(holder);
            for (int i = 0; i < MAX_TASKS && at != null && at != t; i++) {
                at = blockerOf(at);
            }
            return at == t;
        }

        private void keepRing(Task t, int holder) {
            ringsRefused++;
            ringTasks[0] = t.number;
            ringSize = 1;
            Task at = taskAt(holder);
            for (int i = 1; i < MAX_TASKS && at != null && at != t; i++) {
                ringTasks[i] = at.number;
                ringSize = i + 1;
                at = blockerOf(at);
            }
        }

        private int give(Task t, int n) {
            int holder = holderOf(n);
            if (holder == NOT_THERE) {
                return NO_LOCK;
            }
            if (holder != t.number) {
                return UNFIT;
            }
            settle();
            handOver(n);
            return GOES_ON;
        }

        private int waitForBell(Task t, int n) {
            if (n < 0 || n >= MAX_BELLS) {
                return SENSELESS;
            }
            beginWait(t, WAITS_BELL);
            t.waitsFor = n;
            return STOPS;
        }

        private int ringFrom(int n) {
            if (n < 0 || n >= MAX_BELLS) {
                return SENSELESS;
            }
            ringBell(n);
            return GOES_ON;
        }

        private int sleep(Task t, int n) {
            if (n <= 0) {
                return GOES_ON;
            }
            beginWait(t, SLEEPS);
            t.until = clock + n;
            return STOPS;
        }

        private void beginWait(Task t, int state) {
            t.state = state;
            if (t.kind == BATCH || t.kind == IDLE) {
                ran[BATCH_WAITS]++;
            }
            if (t.kind == SERVER) {
                ran[SERVER_WAITS]++;
            }
            ran[JOB_WAITS]++;
        }

        private int spawn(Task t, int n) {
            if (n < 0 || n >= MAX_PROGRAMS) {
                return SENSELESS;
            }
            Task made = taskAt(addTask(t.kind, n, t.share));
            if (made == null) {
                return UNFIT;
            }
            made.startPeriod(t.period, t.budget, clock);
            return GOES_ON;
        }

        private int getShorts(Task t, int n) {
            if (t.shortCount >= 0) {
                return UNFIT;
            }
            if (n < 0) {
                return BELOW_ZERO;
            }
            t.makeShorts(n);
            return GOES_ON;
        }

        /** GOES_ON if t has an n-th SHORT number. */
        private int findShort(Task t, int n) {
            if (t.shortCount < 0) {
                return NO_SHORTS;
            }
            return t.hasShort(n) ? GOES_ON : NOT_IN_SHORTS;
        }

        private int stamp(Task t, int n) {
            t.setShort(n, clock);
            return findShort(t, n);
        }

        private int workByShort(Task t, int n) {
            t.work = Math.max(0, t.shortAt(n));
            return findShort(t, n);
        }

        private int claim(Task t, int n) {
            if (n < FAIR || n > IDLE) {
                return SENSELESS;
            }
            if (!t.isOf(n)) {
                return OTHER_KIND;
            }
            t.left += n == DEADLINE || n == SERVER ? 1 : 0;
            return GOES_ON;
        }

        private int fail(int n) {
            switch (n) {
                case 0:
                case 3:
                    return NO_FAILURE;
                case 1:
                case 2:
                    return FAILURE;
                default:
                    return SENSELESS;
            }
        }

        private long ticksUntilChosen(Task t) {
            settle();
            int lent = 0;
            long sum = 0;
            for (int i = 0; i < taskCount; i++) {
                Task u = tasks[i];
                if (u.state == READY && u.standing < t.standing) {
                    if (numberOf(u.standing) == u.number) {
                        sum += turnsAhead(u, t.standing);
                    } else {
                        lent++;
                    }
                }
            }
            int free = processors - lent;
            return free > 0 ? sum / free + 1 : NONE;
        }

        private long turnsAhead(Task u, long standing) {
            if (classOf(standing) == 0) {
                return u.left;
            }
            long payments = u.paymentsBehind(standing);
            switch (u.kind) {
                case DEADLINE:
                    return u.left + payments;
                case SERVER:
                    return Math.max(u.left, payments);
                case IDLE:
                    return (payments + 1) / 2;
                default:
                    return payments;
            }
        }

        private long summed() {
            long d = 7;
            d = d * 31 + clock;
            d = d * 31 + taskCount;
            d = d * 31 + processors;
            for (int i = 0; i < taskCount; i++) {
                Task t = tasks[i];
                for (int what = 0; what <= 14; what++) {
                    d = d * 31 + t.tell(what);
                }
                d = d * 31 + t.virtual;
                for (int k = 0; k < t.shortCount; k++) {
                    d = d * 31 + t.shortAt(k);
                }
            }
            for (int l = 0; l < MAX_LOCKS; l++) {
                d = d * 31 + holders[l];
            }
            d = rows.summed(d);
            for (int body = 0; body < BODIES; body++) {
                d = d * 31 + ran[body];
            }
            return d;
        }
    }
}
