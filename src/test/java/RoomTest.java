import java.lang.management.ManagementFactory;

/** All calls of one run live in one room that is never swept: dear runs of 512 calls stay far below it. */
public final class RoomTest {
    private static final Due DUE = new Due("RoomTest");
    // 7.3 million fields and elements, were each of them as small as 2 bytes.
    private static final long ROOM = 14_600_000;

    private static final com.sun.management.ThreadMXBean BEAN =
            (com.sun.management.ThreadMXBean) ManagementFactory.getThreadMXBean();

    public static void main(String[] args) {
        long[] made = {fullRun(), fullRun(), quietRun(), lockRun(), newObjects()};
        String[] names = {"first full run", "full run", "quiet run", "run of locks", "new objects"};
        for (int i = 0; i < made.length; i++) {
            System.out.println("RoomTest: " + names[i] + " made " + made[i] + " bytes");
            DUE.is(names[i] + " stays in the room", true, made[i] < ROOM);
        }
        DUE.end();
    }

    private static long bytes() {
        return BEAN.getThreadAllocatedBytes(Thread.currentThread().getId());
    }

    /** 200 tasks with rows of short numbers, 8,000 rows; then images, loads and checks to the last call. */
    private static long fullRun() {
        long before = bytes();
        FairWheel x = new FairWheel();
        int calls = 0;
        for (int p = 0; p < 32; p++) {
            x.program(p, Due.eight(8, 127, 7, p, 7, p, 1, 127), 8);
            x.program(p, Due.eight(1, 127, 1, 127, 1, 127, 1, 127), 8);
            calls += 2;
        }
        x.task(0, 0, 1);
        x.processors(4);
        calls += 2;
        for (int i = 0; i < 3; i++) {
            x.run(1000);
            calls++;
        }
        DUE.is("tasks", 200, x.count(1));
        DUE.is("rows", true, x.count(4) > 7996);
        for (; calls < 510; calls += 3) {
            DUE.is("check", -1, x.check());
            x.image();
            x.load();
        }
        return bytes() - before;
    }

    /** Half a million ticks, with sleepers and waiters alone, and checks of all of them. */
    private static long quietRun() {
        long before = bytes();
        FairWheel x = new FairWheel();
        x.program(0, Due.eight(6, 127, 4, 3, 0), 5);
        for (int t = 0; t < 100; t++) {
            x.task(t % 5, 0, 1);
        }
        for (int calls = 101; calls < 510; calls += 2) {
            DUE.is("run", 1000, x.run(1000));
            DUE.is("check", -1, x.check());
        }
        return bytes() - before;
    }

    /** A chain of 99 waiters, each of whom holds what the next one wants. */
    private static long lockRun() {
        long before = bytes();
        FairWheel x = new FairWheel();
        for (int l = 0; l < 100; l++) {
            x.lock(l);
        }
        for (int p = 0; p < 31; p++) {
            x.program(p, Due.eight(2, 3 * p, 6, 1, 2, 3 * p + 1, 2, 3 * p + 2), 8);
            x.program(p, Due.eight(6, 1, 2, 3 * p + 3, 6, 1, 0), 7);
            x.task(p % 5, p, 1 + p);
        }
        x.processors(4);
        for (int calls = 194; calls < 510; calls += 2) {
            x.run(20);
            DUE.is("check", -1, x.check());
        }
        return bytes() - before;
    }

    private static long newObjects() {
        long before = bytes();
        long sum = 0;
        for (int i = 0; i < 170; i++) {
            FairWheel x = new FairWheel();
            x.run(1);
            sum += x.check();
        }
        DUE.is("checks", -170, sum);
        return bytes() - before;
    }

    private RoomTest() {
    }
}
