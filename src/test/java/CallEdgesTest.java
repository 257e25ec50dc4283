/** Each sentence of promises 1 to 17 that names a limit or a refusal: the last that is taken, the first that is not. */
public final class CallEdgesTest {
    private static final Due DUE = new Due("CallEdgesTest");
    private static final int[] FAR = {Integer.MIN_VALUE, Integer.MIN_VALUE + 1, -65536, 65536, Integer.MAX_VALUE};

    public static void main(String[] args) {
        newObject();
        programBytes();
        programComesBehind();
        programNumber();
        programAbove();
        task();
        taskRefused();
        share();
        shareRefused();
        deadline();
        deadlineRefused();
        processors();
        processorsRefused();
        lock();
        lockRefused();
        ring();
        ringRefused();
        run();
        runRefused();
        chosen();
        noSuchProcessorThen();
        about();
        aboutStates();
        aboutDates();
        aboutAnother();
        virtual();
        small();
        standing();
        standingOfNone();
        holder();
        ringed();
        row();
        refusedChangesNothing();
        lastCall();
        DUE.end();
    }

    private static void newObject() {
        DUE.sentence("One processor, no TASK, no PROGRAM, no lock");
        FairWheel x = new FairWheel();
        int[] counts = {0, 0, 0, 0, 0, 1, 0, 0, -1};
        for (int what = 0; what < counts.length; what++) {
            DUE.is("count " + what, counts[what], x.count(what));
        }
        DUE.is("no task", -1, x.about(0, 0));
        for (int l = 0; l < 100; l++) {
            DUE.is("no lock " + l, -2, x.holder(l));
        }
        for (int p = 0; p < 32; p++) {
            x.task(0, p, 1);
        }
        x.run(32);
        for (int p = 0; p < 32; p++) {
            DUE.is("no program " + p, 1, x.about(p, 9));
        }
        DUE.is("one processor, one row a tick", 32, x.count(4));
        FairWheel y = new FairWheel();
        DUE.is("one processor", 1, y.processors(1));
    }

    private static void programBytes() {
        DUE.sentence("The first n bytes (0 to 8) of eight, the highest first");
        for (int n = 0; n <= 8; n++) {
            FairWheel x = new FairWheel();
            DUE.refused("n of " + n, n, 0, x, x.program(0, Due.eight(5, 1, 5, 2, 5, 3, 5, 4), n));
            x.task(0, 0, 1);
            x.run(1);
            DUE.is("it runs beyond " + n, 2, x.about(0, 9));
            DUE.is("as far as " + n, n / 2 * 2, x.about(0, 5));
        }
        FairWheel y = new FairWheel();
        y.program(0, 0x0801_0900_0D00_0000L, 5);
        y.task(0, 0, 1);
        y.run(1);
        DUE.is("the highest first", 1, y.about(0, 14));
        DUE.is("then the next", 10, y.about(0, 9));
        DUE.is("then the next", 4, y.about(0, 5));
        FairWheel z = new FairWheel();
        z.program(0, Long.MIN_VALUE, 1);
        z.program(1, 0x01FF_0102_0103_017FL, 8);
        z.program(1, -1L, 8);
        z.task(0, 0, 1);
        z.task(0, 1, 1);
        z.processors(2);
        z.run(2);
        DUE.is("the highest bit is a sign", 10, z.about(0, 9));
        DUE.is("work of 2", 0, z.about(1, 4));
        z.run(4);
        DUE.is("the lowest byte", 126, z.about(1, 4));
        z.run(127);
        DUE.is("all bits", 10, z.about(1, 9));
        DUE.is("all bits", 8, z.about(1, 5));
    }

    private static void programComesBehind() {
        DUE.sentence("come behind a PROGRAM (it is there then): how many it has");
        FairWheel x = new FairWheel();
        DUE.is("none", 0, x.program(3, -1, 0));
        DUE.is("none, once more", 0, x.program(3, -1, 0));
        x.task(0, 3, 1);
        x.run(1);
        DUE.is("it is there", 2, x.about(0, 9));
        DUE.is("half a pair", 1, x.program(3, Due.eight(8), 1));
        DUE.is("the other half", 2, x.program(3, Due.eight(7), 1));
        DUE.is("eight more", 10, x.program(3, Due.eight(9, 6, 1, 3, 1, 4, 1, 5), 8));
        DUE.is("none more", 10, x.program(3, -1, 0));
        DUE.is("another one has its own", 1, x.program(2, 0, 1));
        x.task(0, 3, 1);
        x.run(1);
        DUE.is("the pair", 7, x.about(1, 14));
        DUE.is("behind it", 1, x.small(1, 6));
        DUE.is("and behind that", 2, x.about(1, 4));
        DUE.is("notes", 11, x.count(7));
    }

    private static void programNumber() {
        DUE.sentence("-1 refused: p is not 0 to 31, n wrong (1)");
        FairWheel x = new FairWheel();
        for (int wrong : new int[] {-1, 32}) {
            for (int n = 0; n <= 8; n += 8) {
                DUE.refused("p " + wrong, -1, 1, x, x.program(wrong, 0, n));
            }
        }
        for (int wrong : new int[] {-1, 9}) {
            DUE.refused("n " + wrong, -1, 1, x, x.program(0, 0, wrong));
            DUE.refused("n " + wrong, -1, 1, x, x.program(31, 0, wrong));
        }
        for (int far : FAR) {
            DUE.refused("p far", -1, 1, x, x.program(far, 0, 1));
            DUE.refused("n far", -1, 1, x, x.program(0, 0, far));
        }
        x.task(0, 0, 1);
        x.run(1);
        DUE.is("none is there by it", 1, x.about(0, 9));
        for (int n = 0; n <= 8; n += 8) {
            DUE.refused("p 0", n, 0, x, x.program(0, 0, n));
            DUE.refused("p 31", n, 0, x, x.program(31, 0, n));
        }
    }

    private static void programAbove() {
        DUE.sentence("above 1,000 (2)");
        FairWheel x = new FairWheel();
        for (int i = 0; i < 124; i++) {
            x.program(9, Due.eight(5, 0, 5, 0, 5, 0, 5, 0), 8);
        }
        DUE.is("992", 992, x.program(9, 0, 0));
        DUE.refused("to 1,000", 1000, 0, x, x.program(9, Due.eight(5, 0, 5, 0, 5, 0, 1, 9), 8));
        DUE.refused("none more", 1000, 0, x, x.program(9, 0, 0));
        for (int n = 1; n <= 8; n++) {
            DUE.refused("above by " + n, -1, 2, x, x.program(9, 0, n));
        }
        DUE.refused("n wrong is asked first", -1, 1, x, x.program(9, 0, 9));
        DUE.refused("another one has room", 8, 0, x, x.program(8, 0, 8));
        x.task(0, 9, 1);
        x.run(9);
        DUE.is("all of them are there", 1000, x.about(0, 5));
        x.run(1);
        DUE.is("none was put behind", 2, x.about(0, 9));
        FairWheel y = new FairWheel();
        for (int i = 0; i < 124; i++) {
            y.program(0, 0, 8);
        }
        y.program(0, 0, 1);
        DUE.refused("993 and 8", -1, 2, y, y.program(0, 0, 8));
        DUE.refused("993 and 7", 1000, 0, y, y.program(0, 0, 7));
    }

    private static void task() {
        DUE.sentence("A new TASK: its number");
        FairWheel x = new FairWheel();
        DUE.refused("the least of all", 0, 0, x, x.task(0, 0, 1));
        DUE.refused("the most of all", 1, 0, x, x.task(4, 31, 1000));
        DUE.is("kind", 4, x.about(1, 0));
        DUE.is("program", 31, x.about(1, 1));
        DUE.is("share", 1000, x.about(1, 2));
        x.run(2);
        DUE.is("both have ended", 0, x.count(2));
        DUE.is("numbers are not used again", 2, x.task(0, 0, 1));
    }

    private static void taskRefused() {
        DUE.sentence("-1 refused: a KIND, PROGRAM's number or SHARE that is none (1), 200 are there (2)");
        FairWheel x = new FairWheel();
        int[][] wrong = {{-1, 0, 1}, {5, 0, 1}, {0, -1, 1}, {0, 32, 1}, {0, 0, 0}, {0, 0, -1}, {0, 0, 1001}};
        for (int[] w : wrong) {
            DUE.refused("wrong", -1, 1, x, x.task(w[0], w[1], w[2]));
        }
        for (int far : FAR) {
            DUE.refused("kind", -1, 1, x, x.task(far, 0, 1));
            DUE.refused("program", -1, 1, x, x.task(0, far, 1));
            DUE.refused("share", -1, 1, x, x.task(0, 0, far));
        }
        DUE.is("none came", 0, x.count(1));
        for (int t = 0; t < 199; t++) {
            x.task(0, 0, 1);
        }
        DUE.refused("the last", 199, 0, x, x.task(0, 0, 1));
        DUE.refused("one more", -1, 2, x, x.task(0, 0, 1));
        for (int[] w : wrong) {
            DUE.refused("wrong is asked first", -1, 1, x, x.task(w[0], w[1], w[2]));
        }
        x.processors(4);
        x.run(50);
        DUE.is("all have ended", 0, x.count(2));
        DUE.refused("200 are there, though they have ended", -1, 2, x, x.task(0, 0, 1));
    }

    private static void share() {
        DUE.sentence("SHARE becomes s: what it was");
        FairWheel x = Due.one(0, 1, 1, 100, 0);
        DUE.refused("most", 1, 0, x, x.share(0, 1000));
        DUE.is("now", 1000, x.about(0, 2));
        DUE.refused("the same", 1000, 0, x, x.share(0, 1000));
        DUE.refused("least", 1000, 0, x, x.share(0, 1));
        DUE.is("now", 1, x.about(0, 2));
        DUE.is("notes", 5, x.count(7));
        FairWheel y = Due.one(0, 1, 4, 0, 0);
        y.task(0, 0, 8);
        y.run(2);
        DUE.refused("one that waits", 1, 0, y, y.share(0, 9));
        DUE.is("the other stays", 8, y.about(1, 2));
    }

    private static void shareRefused() {
        DUE.sentence("-1 refused: no such TASK, or it has ENDED (3), s is none (1)");
        FairWheel x = Due.one(0, 5, 0);
        x.task(0, 0, 6);
        DUE.refused("task -1", -1, 3, x, x.share(-1, 5));
        DUE.refused("task 2", -1, 3, x, x.share(2, 5));
        DUE.refused("the last task", 6, 0, x, x.share(1, 7));
        DUE.refused("share 0", -1, 1, x, x.share(0, 0));
        DUE.refused("share 1,001", -1, 1, x, x.share(0, 1001));
        for (int far : FAR) {
            DUE.refused("task far", -1, 3, x, x.share(far, 5));
            DUE.refused("share far", -1, 1, x, x.share(0, far));
        }
        DUE.refused("no task is asked first", -1, 3, x, x.share(2, 0));
        DUE.is("it stays", 5, x.about(0, 2));
        x.run(1);
        DUE.refused("ended", -1, 3, x, x.share(0, 9));
        DUE.refused("ended is asked first", -1, 3, x, x.share(0, 0));
        DUE.refused("the other has not", 7, 0, x, x.share(1, 9));
        DUE.is("it stays", 5, x.about(0, 2));
    }

    private static void deadline() {
        DUE.sentence("PERIOD, BUDGET; DEADLINE and LEFT as for a new TASK: true");
        for (int kind = 1; kind <= 2; kind++) {
            FairWheel x = Due.one(kind, 1, 1, 100, 0);
            int[][] told = {{1, 0}, {1, 1}, {1000, 0}, {1000, 1000}, {7, 3}};
            for (int[] d : told) {
                x.run(1);
                int clock = x.count(0);
                DUE.refused("told", true, 0, x, x.deadline(0, d[0], d[1]));
                int[] due = {d[0], d[1], clock + d[0], d[1]};
                for (int i = 0; i < 4; i++) {
                    DUE.is("about " + (10 + i), due[i], x.about(0, 10 + i));
                }
            }
        }
    }

    private static void deadlineRefused() {
        DUE.sentence("False, refused: no such TASK, or it has ENDED (3), it is not Deadline or Server (4),"
                + " one is wrong (1)");
        FairWheel x = new FairWheel();
        Due.write(x, 0, 0);
        for (int kind = 0; kind < 5; kind++) {
            x.task(kind, 0, 1);
        }
        DUE.refused("task -1", false, 3, x, x.deadline(-1, 5, 5));
        DUE.refused("task 5", false, 3, x, x.deadline(5, 5, 5));
        DUE.refused("no task is asked first", false, 3, x, x.deadline(5, 0, 0));
        for (int t : new int[] {0, 3, 4}) {
            DUE.refused("kind " + t, false, 4, x, x.deadline(t, 5, 5));
            DUE.refused("kind is asked ahead of numbers", false, 4, x, x.deadline(t, 0, -1));
        }
        int[][] wrong = {{0, 0}, {-1, -1}, {1001, 0}, {1001, 1001}, {5, -1}, {5, 6}, {1, 2}, {1000, 1001}};
        for (int t = 1; t <= 2; t++) {
            for (int[] w : wrong) {
                DUE.refused(w[0] + ", " + w[1], false, 1, x, x.deadline(t, w[0], w[1]));
            }
            for (int far : FAR) {
                DUE.refused("period far", false, 1, x, x.deadline(t, far, 0));
                DUE.refused("budget far", false, 1, x, x.deadline(t, 1000, far));
                DUE.refused("task far", false, 3, x, x.deadline(far, 5, 5));
            }
            int[] due = {100, 0, 100, 0};
            for (int i = 0; i < 4; i++) {
                DUE.is("as it was", due[i], x.about(t, 10 + i));
            }
        }
        x.run(9);
        for (int t = 0; t < 5; t++) {
            DUE.refused("ended", false, 3, x, x.deadline(t, 5, 5));
        }
        DUE.refused("ended is asked first", false, 3, x, x.deadline(0, 0, 5));
    }

    private static void processors() {
        DUE.sentence("How many processors there were");
        FairWheel x = new FairWheel();
        int were = 1;
        for (int n : new int[] {4, 1, 3, 3, 2, 1, 1}) {
            DUE.refused("now " + n, were, 0, x, x.processors(n));
            DUE.is("count", n, x.count(5));
            were = n;
        }
    }

    private static void processorsRefused() {
        DUE.sentence("-1 refused: n is not 1 to 4 (1)");
        FairWheel x = new FairWheel();
        x.processors(3);
        for (int wrong : new int[] {-1, 0, 5, 6}) {
            DUE.refused("n " + wrong, -1, 1, x, x.processors(wrong));
        }
        for (int far : FAR) {
            DUE.refused("far", -1, 1, x, x.processors(far));
        }
        DUE.is("they stay", 3, x.count(5));
        DUE.refused("least", 3, 0, x, x.processors(1));
        DUE.refused("most", 1, 0, x, x.processors(4));
    }

    private static void lock() {
        DUE.sentence("A lock is there now: true");
        FairWheel x = new FairWheel();
        DUE.refused("the first", true, 0, x, x.lock(0));
        DUE.refused("the last", true, 0, x, x.lock(99));
        DUE.is("free", -1, x.holder(0));
        DUE.is("free", -1, x.holder(99));
        DUE.is("no other", -2, x.holder(1));
        DUE.is("no other", -2, x.holder(98));
    }

    private static void lockRefused() {
        DUE.sentence("False, refused: l is not 0 to 99 (1), it was there (2)");
        FairWheel x = new FairWheel();
        DUE.refused("below", false, 1, x, x.lock(-1));
        DUE.refused("above", false, 1, x, x.lock(100));
        for (int far : FAR) {
            DUE.refused("far", false, 1, x, x.lock(far));
        }
        for (int l : new int[] {0, 99}) {
            DUE.refused("told", true, 0, x, x.lock(l));
            DUE.refused("told twice", false, 2, x, x.lock(l));
        }
        Due.write(x, 0, 2, 99, 1, 9, 0);
        x.task(0, 0, 1);
        x.run(1);
        DUE.refused("held, it is there too", false, 2, x, x.lock(99));
        DUE.is("it is held still", 0, x.holder(99));
    }

    private static void ring() {
        DUE.sentence("A bell is rung from outside: how many are READY by it");
        FairWheel x = new FairWheel();
        Due.write(x, 0, 4, 0, 1, 9, 0);
        Due.write(x, 1, 4, 15, 1, 9, 0);
        for (int t = 0; t < 7; t++) {
            x.task(t % 5, t < 4 ? 0 : 1, 1);
        }
        x.processors(4);
        DUE.refused("none waits yet", 0, 0, x, x.ring(0));
        x.run(2);
        DUE.refused("none for this one", 0, 0, x, x.ring(1));
        DUE.refused("three of the last", 3, 0, x, x.ring(15));
        DUE.is("ready", 3, x.count(3));
        DUE.refused("four of the first", 4, 0, x, x.ring(0));
        DUE.is("ready", 7, x.count(3));
        DUE.refused("they wait no more", 0, 0, x, x.ring(0));
        DUE.refused("they wait no more", 0, 0, x, x.ring(15));
        FairWheel y = Due.one(0, 1, 6, 5, 0);
        y.run(1);
        DUE.refused("a sleeper hears nothing", 0, 0, y, y.ring(0));
        DUE.is("it sleeps on", 3, y.about(0, 6));
    }

    private static void ringRefused() {
        DUE.sentence("-1 refused: no such bell (1)");
        FairWheel x = new FairWheel();
        DUE.refused("below", -1, 1, x, x.ring(-1));
        DUE.refused("above", -1, 1, x, x.ring(16));
        for (int far : FAR) {
            DUE.refused("far", -1, 1, x, x.ring(far));
        }
        DUE.refused("the first", 0, 0, x, x.ring(0));
        DUE.refused("the last", 0, 0, x, x.ring(15));
        DUE.is("notes", 2, x.count(7));
    }

    private static void run() {
        DUE.sentence("Up to n TICKS (0 to 1,000): how many were done");
        FairWheel x = Due.one(0, 1, Due.work(1100, 0));
        DUE.refused("none", 0, 0, x, x.run(0));
        DUE.is("none", 0, x.count(0));
        DUE.refused("one", 1, 0, x, x.run(1));
        DUE.is("one", 1, x.count(0));
        DUE.refused("most", 1000, 0, x, x.run(1000));
        DUE.is("most", 1001, x.count(0));
        DUE.is("rows", 1001, x.count(4));
        FairWheel quiet = new FairWheel();
        DUE.refused("without tasks", 1000, 0, quiet, quiet.run(1000));
        DUE.refused("without tasks", 999, 0, quiet, quiet.run(999));
        DUE.is("the clock", 1999, quiet.count(0));
        FairWheel full = Due.one(0, 1, Due.work(8100, 0));
        for (int i = 0; i < 7; i++) {
            full.run(1000);
        }
        DUE.refused("fewer than told", 997, 0, full, full.run(998));
        DUE.refused("none of 1,000", 0, 0, full, full.run(1000));
    }

    private static void runRefused() {
        DUE.sentence("-1 refused: n wrong (1)");
        FairWheel x = Due.one(0, 1, 1, 100, 0);
        DUE.refused("below", -1, 1, x, x.run(-1));
        DUE.refused("above", -1, 1, x, x.run(1001));
        for (int far : FAR) {
            DUE.refused("far", -1, 1, x, x.run(far));
        }
        DUE.is("no tick was done", 0, x.count(0));
        DUE.is("no row", 0, x.count(4));
        DUE.is("no note", 2, x.count(7));
    }

    private static void chosen() {
        DUE.sentence("The TASK that a processor chose in the latest TICK; -1: none");
        FairWheel x = Due.one(0, 1, 1, 100, 0);
        x.task(0, 0, 1);
        x.task(0, 0, 1);
        x.processors(4);
        for (int p = -1; p <= 4; p++) {
            DUE.is("before any tick " + p, -1, x.chosen(p));
        }
        x.run(1);
        int[] due = {-1, 0, 1, 2, -1, -1};
        for (int p = -1; p <= 4; p++) {
            DUE.is("processor " + p, due[p + 1], x.chosen(p));
        }
        x.task(0, 0, 1);
        x.run(0);
        DUE.is("no tick, no choice", -1, x.chosen(3));
        x.run(1001);
        DUE.is("a refused run is no tick", -1, x.chosen(3));
        x.run(1);
        DUE.is("the fourth", 3, x.chosen(3));
        FairWheel y = Due.one(0, 1, 0);
        y.run(1);
        DUE.is("one that ended by it", 0, y.chosen(0));
        y.run(1);
        DUE.is("none", -1, y.chosen(0));
    }

    private static void noSuchProcessorThen() {
        DUE.sentence("or no such processor then");
        FairWheel x = Due.one(0, 1, 1, 100, 0);
        for (int t = 1; t < 4; t++) {
            x.task(0, 0, 1);
        }
        x.processors(2);
        x.run(1);
        x.processors(4);
        DUE.is("there now, but not then", -1, x.chosen(2));
        DUE.is("there then", 1, x.chosen(1));
        x.run(1);
        x.processors(1);
        DUE.is("there then, but not now", 3, x.chosen(1));
        DUE.is("there then, but not now", 1, x.chosen(3));
        x.run(1);
        DUE.is("not then", -1, x.chosen(1));
        DUE.is("not then", -1, x.chosen(3));
        for (int far : FAR) {
            DUE.is("far", -1, x.chosen(far));
        }
        DUE.is("never there", -1, x.chosen(-1));
        DUE.is("never there", -1, x.chosen(4));
    }

    private static void about() {
        DUE.sentence("0 KIND, 1 PROGRAM, 2 SHARE, 3 REST, 4 WORK, 5 PLACE");
        for (int kind = 0; kind < 5; kind++) {
            FairWheel x = new FairWheel();
            Due.write(x, 30, 8, 4, 1, 50, 0);
            x.task(kind, 30, 600);
            x.deadline(0, 200, 0);
            x.run(1);
            boolean dated = kind == 1 || kind == 2;
            int[] due = {-1, kind, 30, 600, kind == 4 ? 200 : 400, 49, 4, 0, -1, -1, 0, dated ? 200 : -1,
                dated ? 0 : -1, dated ? 200 : -1, dated ? 0 : -1, 4, -1};
            for (int what = -1; what <= 15; what++) {
                DUE.is("kind " + kind + " about " + what, due[what + 1], x.about(0, what));
            }
        }
    }

    private static void aboutStates() {
        DUE.sentence("6 whether it is READY (0), WAITS for a lock (1), for a bell (2), SLEEPS (3), has ENDED (4),"
                + " 7 the lock, or bell, that it waits for (else -1), 8 until when it SLEEPS (else -1), 9 FAULT");
        FairWheel x = new FairWheel();
        x.lock(0);
        x.lock(99);
        Due.write(x, 0, 2, 0, 2, 99, 1, 100, 0);
        Due.write(x, 1, 2, 99, 0);
        Due.write(x, 2, 4, 0, 0);
        Due.write(x, 3, 6, 9, 0);
        Due.write(x, 4, 11, 1);
        Due.write(x, 5, 2, 0, 0);
        Due.write(x, 6, 4, 15, 0);
        Due.write(x, 7, 0);
        x.processors(4);
        for (int t = 0; t < 8; t++) {
            x.task(0, t, 1);
        }
        x.run(2);
        int[][] due = {{0, -1, -1, 0}, {1, 99, -1, 0}, {2, 0, -1, 0}, {3, -1, 9, 0}, {4, -1, -1, 6}, {1, 0, -1, 0},
            {2, 15, -1, 0}, {4, -1, -1, 0}};
        for (int t = 0; t < 8; t++) {
            for (int i = 0; i < 4; i++) {
                DUE.is("task " + t + " about " + (6 + i), due[t][i], x.about(t, 6 + i));
            }
        }
        x.ring(0);
        x.run(10);
        DUE.is("behind the bell", -1, x.about(2, 7));
        DUE.is("behind the sleep", -1, x.about(3, 8));
    }

    private static void aboutDates() {
        DUE.sentence("10 PERIOD, 11 BUDGET, 12 DEADLINE, 13 LEFT (10 to 13: -1 for other KINDS)");
        FairWheel x = new FairWheel();
        Due.write(x, 0, 1, 2, 0);
        x.run(4);
        x.processors(4);
        for (int kind = 0; kind < 5; kind++) {
            x.task(kind, 0, 1);
            x.deadline(kind, 1000, 900);
        }
        int[] first = {1000, 900, 1004, 900};
        int[] last = {1000, 900, 1004, 897};
        for (int kind = 0; kind < 5; kind++) {
            for (int i = 0; i < 4; i++) {
                DUE.is("kind " + kind, kind == 1 || kind == 2 ? first[i] : -1, x.about(kind, 10 + i));
            }
        }
        x.run(9);
        DUE.is("all have ended", 0, x.count(2));
        for (int kind = 0; kind < 5; kind++) {
            for (int i = 0; i < 4; i++) {
                DUE.is("ended, kind " + kind, kind == 1 || kind == 2 ? last[i] : -1, x.about(kind, 10 + i));
            }
        }
    }

    private static void aboutAnother() {
        DUE.sentence("14 how many SHORT numbers (-1: no row); -1 for another what, or no such TASK");
        FairWheel x = Due.one(0, 1, 8, 0, 6, 5, 0);
        DUE.is("no row", -1, x.about(0, 14));
        x.run(1);
        DUE.is("a row of none", 0, x.about(0, 14));
        for (int what = 0; what < 15; what++) {
            DUE.is("no task -1", -1, x.about(-1, what));
            DUE.is("no task 1", -1, x.about(1, what));
        }
        DUE.is("what -1", -1, x.about(0, -1));
        DUE.is("what 15", -1, x.about(0, 15));
        for (int far : FAR) {
            DUE.is("what far", -1, x.about(0, far));
            DUE.is("task far", -1, x.about(far, 0));
        }
        x.run(6);
        DUE.is("ended, it is there still", 0, x.about(0, 14));
        DUE.is("ended, it is there still", 4, x.about(0, 6));
    }

    private static void virtual() {
        DUE.sentence("VIRTUAL; -1 for no such TASK");
        FairWheel x = Due.one(0, 1, 1, 3, 0);
        DUE.is("at first", 0, x.virtual(0));
        DUE.is("task -1", -1, x.virtual(-1));
        DUE.is("task 1", -1, x.virtual(1));
        for (int far : FAR) {
            DUE.is("far", -1, x.virtual(far));
        }
        x.run(9);
        DUE.is("ended, it stays", 4000, x.virtual(0));
        FairWheel y = Due.one(4, 1, Due.work(8100));
        for (int i = 0; i < 8; i++) {
            y.run(1000);
        }
        DUE.is("the greatest of all", 7997L * 2000, y.virtual(0));
        DUE.is("the greatest key of a row", 7996 * 2000, y.row(7996, 4));
        DUE.is("the greatest key of a standing", 7997L * 2000, y.standing(0, 1));
    }

    private static void small() {
        DUE.sentence("The i-th SHORT number; 0 for another");
        FairWheel x = Due.one(0, 1, 1, 5, 8, 3, 9, 0, 9, 2, 6, 9, 0);
        DUE.is("no row", 0, x.small(0, 0));
        x.run(6);
        int[] due = {0, 5, 0, 5, 0, 0};
        for (int i = -1; i <= 4; i++) {
            DUE.is("the " + i + "-th", due[i + 1], x.small(0, i));
        }
        DUE.is("no task -1", 0, x.small(-1, 0));
        DUE.is("no task 1", 0, x.small(1, 0));
        for (int far : FAR) {
            DUE.is("far", 0, x.small(0, far));
            DUE.is("task far", 0, x.small(far, 0));
        }
        x.run(20);
        DUE.is("ended, it stays", 5, x.small(0, 2));
    }

    private static void standing() {
        DUE.sentence("Of STANDING 0 the CLASS, 1 the KEY, 2 the number of the foremost; -1 for another");
        FairWheel x = new FairWheel();
        x.lock(0);
        Due.write(x, 0, 6, 1, 2, 0, 1, 100, 0);
        Due.write(x, 1, 2, 0, 1, 100, 0);
        x.task(2, 0, 1);
        x.task(0, 1, 1);
        x.processors(2);
        x.run(2);
        x.deadline(0, 70, 1);
        int[] due = {-1, 0, 72, 0, -1};
        for (int what = -1; what <= 3; what++) {
            DUE.is("who waits, " + what, due[what + 1], x.standing(0, what));
            DUE.is("the holder, whose number is higher, " + what, due[what + 1], x.standing(1, what));
        }
        for (int far : FAR) {
            DUE.is("far", -1, x.standing(0, far));
        }
    }

    private static void standingOfNone() {
        DUE.sentence("or no such TASK, or one that has ENDED");
        FairWheel x = Due.one(0, 1, 0);
        for (int what = 0; what < 3; what++) {
            DUE.is("task -1", -1, x.standing(-1, what));
            DUE.is("task 1", -1, x.standing(1, what));
        }
        for (int far : FAR) {
            DUE.is("far", -1, x.standing(far, 0));
        }
        DUE.is("not ended yet", 1, x.standing(0, 0));
        DUE.is("not ended yet", 0, x.standing(0, 1));
        x.run(1);
        for (int what = 0; what < 3; what++) {
            DUE.is("ended", -1, x.standing(0, what));
        }
    }

    private static void holder() {
        DUE.sentence("Who holds a lock: -1 if it is free, -2 if it is not there");
        FairWheel x = new FairWheel();
        x.lock(0);
        x.lock(99);
        Due.write(x, 0, 2, 99, 1, 1, 3, 99, 1, 9, 0);
        x.task(0, 0, 1);
        DUE.is("free", -1, x.holder(99));
        x.run(1);
        DUE.is("held by 0", 0, x.holder(99));
        DUE.is("free", -1, x.holder(0));
        x.run(1);
        DUE.is("free again", -1, x.holder(99));
        for (int l : new int[] {-1, 1, 98, 100}) {
            DUE.is("not there " + l, -2, x.holder(l));
        }
        for (int far : FAR) {
            DUE.is("far", -2, x.holder(far));
        }
    }

    private static void ringed() {
        DUE.sentence("The k-th TASK of the latest RING, from 0 on; -1 for another");
        FairWheel x = new FairWheel();
        x.lock(0);
        x.lock(1);
        Due.write(x, 0, 2, 0, 6, 2, 2, 1, 0);
        Due.write(x, 1, 2, 1, 6, 3, 2, 0, 0);
        x.processors(2);
        DUE.is("none yet", -1, x.ringed(0));
        x.task(0, 0, 1);
        x.task(0, 1, 1);
        x.run(20);
        int[] due = {-1, 1, 0, -1};
        for (int k = -1; k <= 2; k++) {
            DUE.is("the first ring, " + k, due[k + 1], x.ringed(k));
        }
        x.task(0, 1, 1);
        x.task(0, 0, 1);
        x.run(20);
        int[] then = {-1, 2, 3, -1};
        for (int k = -1; k <= 2; k++) {
            DUE.is("the latest ring, " + k, then[k + 1], x.ringed(k));
        }
        DUE.is("two rings", 2, x.count(6));
        for (int far : FAR) {
            DUE.is("far", -1, x.ringed(far));
        }
        shorterRing();
    }

    /** Behind a ring of three one of two: nothing of the first is left. */
    private static void shorterRing() {
        FairWheel x = new FairWheel();
        for (int l = 0; l < 3; l++) {
            x.lock(l);
            Due.write(x, l, 2, l, 6, 2 + l, 2, (l + 1) % 3, 0);
            x.task(0, l, 1);
        }
        Due.write(x, 3, 2, 1, 6, 5, 2, 0, 0);
        x.processors(4);
        x.run(20);
        int[] three = {2, 0, 1, -1};
        for (int k = 0; k < 4; k++) {
            DUE.is("of three, " + k, three[k], x.ringed(k));
        }
        x.task(0, 0, 1);
        x.task(0, 3, 1);
        x.run(20);
        int[] two = {4, 3, -1, -1};
        for (int k = 0; k < 4; k++) {
            DUE.is("of two, " + k, two[k], x.ringed(k));
        }
    }

    private static void row() {
        DUE.sentence("A number of ROW k (0 to 4); -1 if there is none");
        FairWheel x = Due.one(0, 2, 1, 9, 0);
        for (int what = 0; what < 5; what++) {
            DUE.is("none yet", -1, x.row(0, what));
        }
        x.run(3);
        int[] due = {-1, 2, 0, 0, 1, 1000, -1};
        for (int what = -1; what <= 5; what++) {
            DUE.is("the last, " + what, due[what + 1], x.row(2, what));
            DUE.is("none behind, " + what, -1, x.row(3, what));
            DUE.is("none ahead, " + what, -1, x.row(-1, what));
        }
        for (int far : FAR) {
            DUE.is("row far", -1, x.row(far, 0));
            DUE.is("what far", -1, x.row(0, far));
        }
    }

    /** No refused call of any kind changes what can be seen, or is noted. */
    private static void refusedChangesNothing() {
        DUE.sentence("for each call of program, task, share, deadline, processors, lock, ring and run that was not"
                + " refused");
        FairWheel x = Due.one(2, 3, 1, 100, 0);
        x.lock(0);
        x.run(3);
        long before = x.digest();
        int notes = x.count(7);
        int[] all = {x.program(32, 0, 1), x.program(0, 0, 9), x.task(5, 0, 1), x.task(0, 0, 0), x.share(1, 1),
            x.share(0, 1001), x.processors(5), x.ring(16), x.run(1001)};
        for (int answer : all) {
            DUE.is("refused", -1, answer);
        }
        boolean[] more = {x.deadline(1, 5, 5), x.deadline(0, 5, 6), x.lock(100), x.lock(0), x.forge(3, 0, 1),
            x.forge(0, 5, 1), x.load()};
        for (boolean answer : more) {
            DUE.is("refused", false, answer);
        }
        DUE.is("all is as it was", before, x.digest());
        DUE.is("no note", notes, x.count(7));
        DUE.is("check", -1, x.check());
    }

    /** The last call of the 512 is as good as the first. */
    private static void lastCall() {
        DUE.sentence("An object is used for at most 512 calls after it has been made");
        FairWheel x = new FairWheel();
        for (int call = 1; call <= 510; call++) {
            x.run(1000);
        }
        DUE.is("the 511th", 1000, x.run(1000));
        DUE.is("the 512th", 511000, x.count(0));
        FairWheel y = Due.one(1, 1, 4, 0, 0);
        for (int call = 3; call < 510; call++) {
            y.run(1000);
        }
        DUE.is("the 510th", -1, y.check());
        DUE.is("the 511th", 507000, y.checkedTo());
        DUE.is("the 512th", 507000, y.about(0, 12));
    }

    private CallEdgesTest() {
    }
}
