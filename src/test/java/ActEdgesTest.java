/** Each sentence on an ACT, a byte, a FAULT or a lock that goes on, from both sides of what it names. */
public final class ActEdgesTest {
    private static final Due DUE = new Due("ActEdgesTest");

    public static void main(String[] args) {
        workLeft();
        byteBehind();
        placeBehind();
        end();
        workBecomes();
        takes();
        waitsForLock();
        gives();
        waitsForBell();
        ringsBell();
        sleeps();
        comes();
        getsItsRow();
        becomesTheClock();
        saysItsKind();
        failureIsThrown();
        workByShort();
        placeStays();
        turnEndsWithTheTask();
        noSuchProgram();
        beyond();
        notOfKind();
        belowZero();
        noFailure();
        failure();
        noLock();
        noRow();
        notInTheRow();
        senselessByte();
        senselessNumber();
        holdsIt();
        doesNotHoldIt();
        hasARow();
        twoHundred();
        ring();
        ringsTasks();
        lockGiven();
        holderEnds();
        goesToTheForemost();
        freeWithoutAny();
        DUE.end();
    }

    private static FairWheel done(int kind, int... bytes) {
        FairWheel x = Due.one(kind, 1, bytes);
        x.lock(0);
        x.lock(99);
        x.run(1);
        return x;
    }

    /** The first turn ends the TASK so; it never comes back. */
    private static void fault(int fault, int place, int kind, int... bytes) {
        FairWheel x = done(kind, bytes);
        String what = "kind " + kind + " " + java.util.Arrays.toString(bytes);
        DUE.is("fault of " + what, fault, x.about(0, 9));
        DUE.is("state of " + what, 4, x.about(0, 6));
        DUE.is("place of " + what, place, x.about(0, 5));
        DUE.is("none waits: " + what, 0, x.trace(3));
        DUE.is("none is alive: " + what, 0, x.count(2));
    }

    /** The first turn goes as far as the work behind these bytes. */
    private static void fine(int kind, int... bytes) {
        int[] more = java.util.Arrays.copyOf(bytes, bytes.length + 2);
        more[bytes.length] = 1;
        more[bytes.length + 1] = 100;
        FairWheel x = done(kind, more);
        String what = "kind " + kind + " " + java.util.Arrays.toString(bytes);
        DUE.is("no fault of " + what, 0, x.about(0, 9));
        DUE.is("ready: " + what, 0, x.about(0, 6));
        DUE.is("behind " + what, more.length, x.about(0, 5));
        DUE.is("work behind " + what, 99, x.about(0, 4));
    }

    private static void workLeft() {
        DUE.sentence("if there is WORK left, it is one less, and the turn ends");
        FairWheel x = Due.one(0, 1, 1, 2, 5, 0, 1, 1, 0);
        x.run(1);
        DUE.is("one left", 1, x.about(0, 4));
        DUE.is("place", 2, x.about(0, 5));
        x.run(1);
        DUE.is("none left", 0, x.about(0, 4));
        DUE.is("the place stays", 2, x.about(0, 5));
        x.run(1);
        DUE.is("then the bytes go on", 6, x.about(0, 5));
        DUE.is("a work of 1 is done at once", 0, x.about(0, 4));
        DUE.is("and ends the turn", 0, x.about(0, 6));
        x.run(1);
        DUE.is("it ended", 4, x.about(0, 6));
    }

    private static void byteBehind() {
        DUE.sentence("all but 0 have a byte behind, n (-128 to 127)");
        FairWheel x = done(0, 1, 127, 0);
        DUE.is("127", 126, x.about(0, 4));
        FairWheel y = done(0, 1, 128, 1, 5, 0);
        DUE.is("128 is -128", 4, y.about(0, 4));
        FairWheel z = done(0, 6, 255, 6, 127, 0);
        DUE.is("255 is -1", 127, z.about(0, 8));
        for (int code = 1; code <= 12; code++) {
            fault(2, 0, 0, code);
        }
        fault(0, 0, 0, 0);
    }

    private static void placeBehind() {
        DUE.sentence("the PLACE is behind it then, if it goes on or waits");
        FairWheel x = new FairWheel();
        x.lock(0);
        Due.write(x, 0, 2, 0, 6, 100, 0);
        Due.write(x, 1, 5, 0, 2, 0, 0);
        Due.write(x, 2, 5, 0, 4, 0, 0);
        Due.write(x, 3, 5, 1, 6, 9, 0);
        x.processors(4);
        for (int t = 0; t < 4; t++) {
            x.task(0, t, 1);
        }
        x.run(1);
        int[] states = {3, 1, 2, 3};
        for (int t = 0; t < 4; t++) {
            DUE.is("state of " + t, states[t], x.about(t, 6));
            DUE.is("place of " + t, 4, x.about(t, 5));
        }
        fine(0, 5, 0);
        fine(0, 1, 0);
        fine(0, 2, 0, 3, 0);
        fine(0, 7, 0);
        fine(0, 8, 1, 9, 0, 12, 0);
        fine(0, 10, 0);
    }

    private static void end() {
        DUE.sentence("0 END");
        fault(0, 0, 0, 0);
        fault(0, 2, 4, 5, 0, 0);
        fault(0, 4, 1, 1, -1, 5, 0, 0, 99);
        FairWheel x = done(0, 1, 1, 0);
        DUE.is("behind the work", 0, x.about(0, 6));
        x.run(1);
        DUE.is("ended", 4, x.about(0, 6));
        DUE.is("its place", 2, x.about(0, 5));
    }

    private static void workBecomes() {
        DUE.sentence("1 WORK becomes n, if n > 0");
        for (int n : new int[] {1, 2, 126, 127}) {
            FairWheel x = done(0, 1, n, 0);
            DUE.is("work of " + n, n - 1, x.about(0, 4));
            DUE.is("ready", 0, x.about(0, 6));
            x.run(n - 1);
            DUE.is("all but the end", 0, x.about(0, 6));
            x.run(1);
            DUE.is("so many ticks and one", 4, x.about(0, 6));
        }
        for (int n : new int[] {0, -1, -127, -128}) {
            fault(0, 2, 0, 1, n, 0);
            DUE.is("no work of " + n, 0, done(0, 1, n, 0).about(0, 4));
            DUE.is("no work of " + n, 0, done(0, 1, n, 6, 9).about(0, 4));
        }
    }

    private static void takes() {
        DUE.sentence("2 takes lock n: free: it is the TASK's");
        for (int l : new int[] {0, 99}) {
            FairWheel x = done(0, 2, l, 1, 9, 0);
            DUE.is("held", 0, x.holder(l));
            DUE.is("the other is free", -1, x.holder(99 - l));
            DUE.is("it goes on", 8, x.about(0, 4));
        }
        FairWheel y = done(0, 2, 0, 2, 99, 1, 9, 0);
        DUE.is("both", 0, y.holder(0));
        DUE.is("both", 0, y.holder(99));
    }

    private static void waitsForLock() {
        DUE.sentence("of another TASK: it WAITS for it, and the turn ends");
        FairWheel x = new FairWheel();
        x.lock(99);
        Due.write(x, 0, 2, 99, 1, 100, 0);
        x.task(0, 0, 1);
        x.task(0, 0, 1);
        x.processors(2);
        x.run(1);
        DUE.is("it waits", 1, x.about(1, 6));
        DUE.is("for lock 99", 99, x.about(1, 7));
        DUE.is("no work was done", 0, x.about(1, 4));
        DUE.is("it paid", 1000, x.virtual(1));
        DUE.is("the holder stays", 0, x.holder(99));
        x.run(50);
        DUE.is("it waits on", 1, x.about(1, 6));
        DUE.is("it pays no more", 1000, x.virtual(1));
        DUE.is("no bell is heard", 0, x.ring(0));
    }

    private static void gives() {
        DUE.sentence("3 gives lock n");
        FairWheel x = done(0, 2, 99, 3, 99, 1, 9, 0);
        DUE.is("free again", -1, x.holder(99));
        DUE.is("it goes on", 8, x.about(0, 4));
        FairWheel y = done(0, 2, 0, 2, 99, 3, 0, 1, 9, 0);
        DUE.is("given", -1, y.holder(0));
        DUE.is("the other is kept", 0, y.holder(99));
        fine(0, 2, 0, 3, 0, 2, 0, 3, 0);
    }

    private static void waitsForBell() {
        DUE.sentence("4 WAITS for bell n: the turn ends");
        for (int b : new int[] {0, 15}) {
            FairWheel x = done(0, 4, b, 1, 9, 0);
            DUE.is("it waits", 2, x.about(0, 6));
            DUE.is("for the bell", b, x.about(0, 7));
            DUE.is("no work was done", 0, x.about(0, 4));
            DUE.is("another bell", 0, x.ring(15 - b));
            x.run(200);
            DUE.is("it waits on", 2, x.about(0, 6));
            DUE.is("its bell", 1, x.ring(b));
            DUE.is("ready", 0, x.about(0, 6));
            DUE.is("for none", -1, x.about(0, 7));
        }
    }

    private static void ringsBell() {
        DUE.sentence("5 rings bell n: all who wait for it are READY");
        FairWheel x = new FairWheel();
        Due.write(x, 0, 4, 15, 1, 9, 0);
        Due.write(x, 1, 4, 0, 1, 9, 0);
        Due.write(x, 2, 1, 60, 5, 15, 1, 9, 0);
        for (int t = 0; t < 198; t++) {
            x.task(0, 0, 1000);
        }
        x.task(0, 1, 1000);
        x.task(0, 2, 1000);
        x.processors(4);
        x.run(50);
        DUE.is("all but the ringer wait", 1, x.count(3));
        x.run(59);
        DUE.is("still", 1, x.count(3));
        x.run(1);
        DUE.is("the ringer and 198", 199, x.count(3));
        DUE.is("the other bell's one waits on", 0, x.about(198, 7));
        DUE.is("the ringer went on to its work", 8, x.about(199, 4));
        DUE.is("the first", 0, x.about(0, 6));
        DUE.is("the last", 0, x.about(197, 6));
        fine(0, 5, 0, 5, 15);
    }

    private static void sleeps() {
        DUE.sentence("6 SLEEPS until c + n, if n > 0: the turn ends");
        for (int n : new int[] {1, 2, 127}) {
            FairWheel x = Due.one(0, 1, 1, 3, 6, n, 1, 9, 0);
            x.run(4);
            DUE.is("it sleeps", 3, x.about(0, 6));
            DUE.is("of the clock 3", 3 + n, x.about(0, 8));
            DUE.is("no work was done", 0, x.about(0, 4));
            DUE.is("for nothing else", -1, x.about(0, 7));
        }
        for (int n : new int[] {0, -1, -128}) {
            fine(0, 6, n);
        }
    }

    private static void comes() {
        DUE.sentence("7 a new TASK comes, as it is (KIND, SHARE, PERIOD and BUDGET; DEADLINE and LEFT as for a new"
                + " one), with PROGRAM n");
        for (int kind = 0; kind < 5; kind++) {
            FairWheel x = Due.one(kind, 300, 1, 4, 7, 0, 7, 31, 1, 100, 0);
            x.deadline(0, 1000, 6);
            x.run(2);
            x.share(0, 400);
            x.run(3);
            boolean dated = kind == 1 || kind == 2;
            DUE.is("two came", 3, x.count(1));
            int[] due = {kind, 0, 400, 0, 0, 0, 0, -1, -1, 0, dated ? 1000 : -1, dated ? 6 : -1, dated ? 1004 : -1,
                dated ? 6 : -1, -1};
            for (int what = 0; what < 15; what++) {
                DUE.is("kind " + kind + " about " + what, due[what], x.about(1, what));
            }
            DUE.is("the last program", 31, x.about(2, 1));
            DUE.is("virtual", x.virtual(0), x.virtual(1));
            DUE.is("what the first has left", dated ? 1 : -1, x.about(0, 13));
        }
    }

    private static void getsItsRow() {
        DUE.sentence("8 it gets its row of SHORT numbers, n of them, all 0 (once)");
        for (int n : new int[] {0, 1, 126, 127}) {
            FairWheel x = done(0, 8, n, 1, 9, 0);
            DUE.is("how many", n, x.about(0, 14));
            for (int i = 0; i < n; i++) {
                DUE.is("the " + i + "-th", 0, x.small(0, i));
            }
        }
        fault(11, 2, 0, 8, 0, 8, 0);
        fault(11, 2, 0, 8, 127, 8, 1);
        fine(0, 8, 127);
    }

    /** A TASK that waits for bell 0, keeps the clock in its row of two, works by it, and then does one act more. */
    private static FairWheel keptAt(int clock, int act) {
        FairWheel x = Due.one(0, 1, 4, 0, 8, 2, 9, 1, 12, 1, act, 5, 0);
        for (int left = clock; left > 0; left -= Math.min(left, 1000)) {
            x.run(Math.min(left, 1000));
        }
        x.ring(0);
        x.run(1);
        return x;
    }

    private static void becomesTheClock() {
        DUE.sentence("9 the n-th of these becomes c, as a short number");
        int[] clocks = {1, 32766, 32767, 32768, 65535, 65536, 65537};
        int[] shorts = {1, 32766, 32767, -32768, -1, 0, 1};
        for (int i = 0; i < clocks.length; i++) {
            FairWheel x = keptAt(clocks[i], 1);
            DUE.is("at " + clocks[i], shorts[i], x.small(0, 1));
            DUE.is("the other at " + clocks[i], 0, x.small(0, 0));
            DUE.is("behind the row", 0, x.small(0, 2));
        }
        FairWheel y = Due.one(0, 1, 8, 127, 1, 3, 9, 0, 9, 126, 1, 5, 0);
        y.run(4);
        DUE.is("the first", 3, y.small(0, 0));
        DUE.is("the last", 3, y.small(0, 126));
        DUE.is("none else", 0, y.small(0, 1) + y.small(0, 125));
    }

    private static void saysItsKind() {
        DUE.sentence("10 it says that it is of KIND n: LEFT is one more if n is 1 or 2");
        int[][] due = {{1, 1, 1}, {2, 1, 1}, {2, 2, 1}, {1, 0, 0}, {2, 0, 0}};
        for (int[] d : due) {
            FairWheel x = done(d[0], 10, d[1], 4, 0, 0);
            DUE.is("kind " + d[0] + " says " + d[1], d[2], x.about(0, 13));
            DUE.is("it waits now", 2, x.about(0, 6));
            DUE.is("its class", 1 - d[2], x.standing(0, 0));
            DUE.is("the budget stays", 0, x.about(0, 11));
        }
        for (int kind : new int[] {0, 3, 4}) {
            FairWheel x = done(kind, 10, 0, 10, kind, 4, 0, 0);
            DUE.is("kind " + kind, -1, x.about(0, 13));
            DUE.is("its class", 1, x.standing(0, 0));
        }
        FairWheel y = Due.one(2, 1, 10, 1, 10, 2, 10, 0, 4, 0, 0);
        y.deadline(0, 50, 50);
        y.run(1);
        DUE.is("above the budget", 51, y.about(0, 13));
    }

    private static void failureIsThrown() {
        DUE.sentence("11 failure n is thrown");
        int[] faults = {10, 5, 6, 6, 5, 10};
        for (int n = -1; n <= 4; n++) {
            for (int kind = 0; kind < 5; kind++) {
                fault(faults[n + 1], 2, kind, 5, 0, 11, n, 1, 9);
            }
        }
    }

    private static void workByShort() {
        DUE.sentence("12 WORK becomes the n-th SHORT number, if that is above 0");
        int[] clocks = {1, 32767, 32768, 65536, 65537};
        int[] work = {0, 32766, 4, 4, 0};
        int[] places = {8, 8, 10, 10, 8};
        for (int i = 0; i < clocks.length; i++) {
            FairWheel x = keptAt(clocks[i], 1);
            DUE.is("work at " + clocks[i], work[i], x.about(0, 4));
            DUE.is("place at " + clocks[i], places[i], x.about(0, 5));
        }
        for (int clock : new int[] {32768, 65535, 65536}) {
            FairWheel x = keptAt(clock, 6);
            DUE.is("no work at " + clock, 0, x.about(0, 4));
            DUE.is("but the next act at " + clock, clock + 5, x.about(0, 8));
        }
        fine(0, 8, 1, 12, 0);
        FairWheel y = Due.one(0, 1, 1, 9, 8, 2, 9, 1, 12, 0, 12, 1, 0);
        y.run(10);
        DUE.is("the second, not the first", 8, y.about(0, 4));
        DUE.is("a row stays as it was", 9, y.small(0, 1));
    }

    private static void placeStays() {
        DUE.sentence("FAULTS, and 0, end the TASK at once, its turn too; the PLACE stays");
        fault(0, 4, 0, 5, 0, 5, 1, 0, 5, 2, 1, 9);
        fault(10, 4, 0, 5, 0, 5, 1, 13, 5, 2, 1, 9);
        fault(6, 4, 0, 5, 0, 5, 1, 11, 1, 1, 9);
        fault(2, 4, 0, 5, 0, 5, 1);
        int[] most = new int[1000];
        for (int i = 0; i < 1000; i += 2) {
            most[i] = 5;
        }
        fault(2, 1000, 0, most);
        most[999] = 16;
        fault(10, 998, 0, most);
    }

    private static void turnEndsWithTheTask() {
        DUE.sentence("end the TASK at once, its turn too");
        FairWheel x = done(0, 0, 7, 0, 7, 0);
        DUE.is("nothing behind 0 is done", 1, x.count(1));
        FairWheel y = done(0, 11, 1, 7, 0);
        DUE.is("nothing behind a fault is done", 1, y.count(1));
        y.run(20);
        DUE.is("nor later", 1, y.count(1));
        DUE.is("one row", 1, y.count(4));
        DUE.is("fault 6 stays", 6, y.about(0, 9));
    }

    private static void noSuchProgram() {
        DUE.sentence("1 there is no such PROGRAM");
        for (int p : new int[] {0, 1, 31}) {
            FairWheel x = new FairWheel();
            x.task(0, p, 1);
            x.run(1);
            DUE.is("not there", 1, x.about(0, 9));
            DUE.is("place", 0, x.about(0, 5));
            FairWheel y = new FairWheel();
            y.program(p, 0, 0);
            y.task(0, p, 1);
            y.run(1);
            DUE.is("there, but empty", 2, y.about(0, 9));
            FairWheel z = new FairWheel();
            z.task(0, p, 1);
            z.program(p, 0, 1);
            z.run(1);
            DUE.is("there by the time it is chosen", 0, z.about(0, 9));
        }
        FairWheel child = Due.one(0, 1, 7, 30, 1, 9, 0);
        child.run(3);
        DUE.is("byte 7 takes a number without a program", 1, child.about(1, 9));
        DUE.is("the other goes on", 0, child.about(0, 6));
    }

    private static void beyond() {
        DUE.sentence("2 a byte, or the byte behind, is beyond it");
        fault(2, 0, 0);
        fault(2, 0, 0, 1);
        fault(2, 2, 0, 5, 0);
        fault(2, 2, 0, 5, 0, 5);
        fault(0, 2, 0, 5, 0, 0);
        FairWheel x = Due.one(0, 1, 1, 3);
        x.run(3);
        DUE.is("at its work yet", 0, x.about(0, 6));
        x.program(0, Due.eight(1, 2, 0), 3);
        x.run(2);
        DUE.is("bytes came behind in time", 0, x.about(0, 6));
        x.run(1);
        DUE.is("the new end", 0, x.about(0, 9));
        DUE.is("the new end", 4, x.about(0, 5));
    }

    private static void notOfKind() {
        DUE.sentence("3 (10) it is not of KIND n: each is Fair; Server ones are Deadline, Idle ones Batch");
        boolean[][] is = {
            {true, false, false, false, false},
            {true, true, false, false, false},
            {true, true, true, false, false},
            {true, false, false, true, false},
            {true, false, false, true, true},
        };
        for (int kind = 0; kind < 5; kind++) {
            for (int n = 0; n < 5; n++) {
                if (is[kind][n]) {
                    fine(kind, 10, n);
                } else {
                    fault(3, 0, kind, 10, n);
                }
            }
        }
        FairWheel x = done(1, 10, 2);
        DUE.is("nothing more is left then", 0, x.about(0, 13));
    }

    private static void belowZero() {
        DUE.sentence("4 (8) n is below 0");
        fault(4, 0, 0, 8, -1);
        fault(4, 2, 0, 5, 0, 8, -128);
        fine(0, 8, 0);
        DUE.is("no row", -1, done(0, 8, -1).about(0, 14));
    }

    private static void noFailure() {
        DUE.sentence("5 (11) n is 0 or 3: no failure stands there");
        fault(5, 0, 0, 11, 0);
        fault(5, 0, 4, 11, 3);
    }

    private static void failure() {
        DUE.sentence("6 (11) n is 1 or 2");
        fault(6, 0, 0, 11, 1);
        fault(6, 0, 2, 11, 2);
    }

    private static void noLock() {
        DUE.sentence("7 (2, 3) lock n is not there");
        for (int l : new int[] {-128, -2, -1, 1, 50, 98, 100, 101, 127}) {
            fault(7, 0, 0, 2, l);
            fault(7, 0, 0, 3, l);
        }
        fine(0, 2, 0);
        fine(0, 2, 99);
        FairWheel x = Due.one(0, 1, 1, 1, 2, 7, 1, 9, 0);
        x.run(1);
        x.lock(7);
        x.run(1);
        DUE.is("there by then", 0, x.holder(7));
    }

    private static void noRow() {
        DUE.sentence("8 (9, 12) it has no row");
        for (int n : new int[] {-128, -1, 0, 1, 127}) {
            fault(8, 0, 0, 9, n);
            fault(8, 0, 0, 12, n);
        }
        FairWheel x = Due.one(0, 1, 8, 3, 7, 1, 9, 2, 1, 9, 0);
        Due.write(x, 1, 9, 2, 0);
        x.run(3);
        DUE.is("a new one has no row of the one that it came from", 8, x.about(1, 9));
    }

    private static void notInTheRow() {
        DUE.sentence("9 (9, 12) n is not in the row");
        int[] sizes = {0, 1, 2, 127};
        for (int size : sizes) {
            for (int code = 9; code <= 12; code += 3) {
                fault(9, 2, 0, 8, size, code, -1);
                fault(9, 2, 0, 8, size, code, -128);
                if (size < 127) {
                    fault(9, 2, 0, 8, size, code, size);
                    fault(9, 2, 0, 8, size, code, 127);
                }
                if (size > 0) {
                    fine(0, 8, size, code, 0);
                    fine(0, 8, size, code, size - 1);
                }
            }
        }
    }

    private static void senselessByte() {
        DUE.sentence("10 a byte above 12 or below 0 (ahead of the byte behind)");
        for (int code : new int[] {13, 14, 127, 128, 200, 255}) {
            fault(10, 0, 0, code);
            fault(10, 0, 0, code, 0);
            fault(10, 2, 0, 5, 0, code);
        }
        fault(2, 0, 0, 12);
        fault(8, 0, 0, 12, 0);
        fault(0, 0, 0, 0);
    }

    private static void senselessNumber() {
        DUE.sentence("(4, 5) no such bell; (7) n is not 0 to 31; (10) n is not 0 to 4; (11) n is not 0 to 3");
        for (int n : new int[] {-128, -1, 16, 127}) {
            fault(10, 0, 0, 4, n);
            fault(10, 0, 0, 5, n);
        }
        fine(0, 5, 0, 5, 15);
        DUE.is("the first bell", 2, done(0, 4, 0).about(0, 6));
        DUE.is("the last bell", 2, done(0, 4, 15).about(0, 6));
        for (int n : new int[] {-128, -1, 32, 127}) {
            fault(10, 0, 0, 7, n);
        }
        fine(0, 7, 0, 7, 31);
        for (int n : new int[] {-128, -1, 5, 127}) {
            for (int kind = 0; kind < 5; kind++) {
                fault(10, 0, kind, 10, n);
            }
        }
        fine(4, 10, 0, 10, 4);
        for (int n : new int[] {-128, -1, 4, 127}) {
            fault(10, 0, 0, 11, n);
        }
        fault(5, 0, 0, 11, 0);
        fault(5, 0, 0, 11, 3);
    }

    private static void holdsIt() {
        DUE.sentence("11 (2) it holds lock n");
        fault(11, 2, 0, 2, 0, 2, 0);
        fault(11, 4, 0, 2, 0, 2, 99, 2, 99);
        fine(0, 2, 0, 2, 99);
        fine(0, 2, 0, 3, 0, 2, 0);
        DUE.is("it is no ring", 0, done(0, 2, 0, 2, 0).count(6));
        DUE.is("what it held is free", -1, done(0, 2, 0, 2, 0).holder(0));
    }

    private static void doesNotHoldIt() {
        DUE.sentence("(3) it does not hold it");
        fault(11, 0, 0, 3, 0);
        fault(11, 2, 0, 2, 0, 3, 99);
        fault(11, 4, 0, 2, 0, 3, 0, 3, 0);
        FairWheel x = new FairWheel();
        x.lock(0);
        Due.write(x, 0, 2, 0, 1, 9, 0);
        Due.write(x, 1, 3, 0, 0);
        x.task(0, 0, 1);
        x.task(0, 1, 1);
        x.processors(2);
        x.run(1);
        DUE.is("another one holds it", 11, x.about(1, 9));
        DUE.is("who keeps it", 0, x.holder(0));
    }

    private static void hasARow() {
        DUE.sentence("(8) it has a row (ahead of 4)");
        fault(11, 2, 0, 8, 0, 8, 0);
        fault(11, 2, 0, 8, 5, 8, 6);
        fault(11, 2, 0, 8, 5, 8, -1);
        fault(11, 2, 0, 8, 0, 8, -128);
        DUE.is("the row stays", 5, done(0, 8, 5, 8, 6).about(0, 14));
    }

    private static void twoHundred() {
        DUE.sentence("(7) there are 200 TASKS");
        for (int there = 198; there <= 200; there++) {
            FairWheel x = Due.one(0, 1, 7, 1, 1, 9, 0);
            for (int t = 1; t < there; t++) {
                x.task(0, 1, 1);
            }
            x.run(1);
            DUE.is("of " + there, Math.min(200, there + 1), x.count(1));
            DUE.is("fault of " + there, there < 200 ? 0 : 11, x.about(0, 9));
            DUE.is("state of " + there, there < 200 ? 0 : 4, x.about(0, 6));
        }
        FairWheel y = Due.one(0, 1, 7, 32);
        for (int t = 1; t < 200; t++) {
            y.task(0, 1, 1);
        }
        y.run(1);
        DUE.is("n is asked first, as 10 is told ahead of 11", 10, y.about(0, 9));
    }

    /** Each of n TASKS takes its lock, sleeps, and takes the next one's. */
    private static FairWheel circle(int n) {
        FairWheel x = new FairWheel();
        x.processors(4);
        for (int i = 0; i < n; i++) {
            x.lock(i);
            Due.write(x, i, 2, i, 6, 100 - n + i, 2, (i + 1) % n, 0);
            x.task(0, i, 1);
        }
        x.run(8);
        return x;
    }

    private static void ring() {
        DUE.sentence("12 (2) the holder, or whom it waits for, and so on, is the TASK itself");
        for (int n = 2; n <= 32; n += 15) {
            FairWheel x = circle(n);
            x.run(200);
            DUE.is("rings of " + n, 1, x.count(6));
            int found = 0;
            for (int t = 0; t < n; t++) {
                found += x.about(t, 9) == 12 ? 1 : 0;
            }
            DUE.is("faults of " + n, 1, found);
            DUE.is("all others end well", 0, x.count(2));
        }
        FairWheel y = new FairWheel();
        y.lock(0);
        y.lock(1);
        Due.write(y, 0, 2, 0, 6, 5, 0);
        Due.write(y, 1, 2, 1, 2, 0, 0);
        y.task(0, 0, 1);
        y.task(0, 1, 1);
        y.processors(2);
        y.run(1);
        DUE.is("a chain that does not come back is no ring", 0, y.count(6));
        DUE.is("it waits", 1, y.about(1, 6));
    }

    private static void ringsTasks() {
        DUE.sentence("a RING: the TASK, the holder of lock n, the holder of what that one waits for, .. up to the last"
                + " before the TASK");
        FairWheel x = circle(2);
        x.run(120);
        int last = x.ringed(0);
        DUE.is("its fault", 12, x.about(last, 9));
        DUE.is("the other one", 1 - last, x.ringed(1));
        DUE.is("no third", -1, x.ringed(2));
        FairWheel y = circle(32);
        y.run(120);
        int first = y.ringed(0);
        DUE.is("its fault", 12, y.about(first, 9));
        for (int k = 1; k < 32; k++) {
            DUE.is("ringed " + k, (first + k) % 32, y.ringed(k));
        }
        DUE.is("no more", -1, y.ringed(32));
    }

    private static void lockGiven() {
        DUE.sentence("When a lock is given (3)");
        FairWheel x = new FairWheel();
        x.lock(0);
        Due.write(x, 0, 2, 0, 1, 2, 3, 0, 2, 0, 1, 9, 0);
        Due.write(x, 1, 2, 0, 1, 3, 0);
        x.task(0, 0, 1);
        x.task(0, 1, 1);
        x.processors(2);
        x.run(2);
        DUE.is("kept", 0, x.holder(0));
        x.run(1);
        DUE.is("it goes to who waits", 1, x.holder(0));
        DUE.is("who is ready then", 0, x.about(1, 6));
        DUE.is("and waits for none", -1, x.about(1, 7));
        DUE.is("the giver, who wants it again, waits", 1, x.about(0, 6));
        x.run(4);
        DUE.is("it comes back", 0, x.holder(0));
        DUE.is("who is ready", 0, x.about(0, 6));
        DUE.is("two got it so", 2, x.trace(10));
    }

    private static void holderEnds() {
        DUE.sentence("or its holder ends (its locks by number)");
        int[][] ends = {{0}, {11, 1}, {13}, {9, 0}, {3, 50}, {2, 3}};
        for (int[] how : ends) {
            FairWheel x = new FairWheel();
            x.lock(3);
            x.lock(0);
            x.lock(99);
            int[] holds = {2, 99, 2, 3, 2, 0, 1, 3, 0, 0};
            System.arraycopy(how, 0, holds, 8, how.length);
            Due.write(x, 0, holds);
            Due.write(x, 1, 2, 3, 1, 9, 0);
            Due.write(x, 2, 2, 99, 1, 9, 0);
            x.task(0, 0, 1);
            x.task(0, 1, 1);
            x.task(4, 2, 1);
            x.processors(3);
            x.run(3);
            DUE.is("held", 0, x.holder(99));
            x.run(1);
            DUE.is("it ended", 4, x.about(0, 6));
            DUE.is("to who waits for 3", 1, x.holder(3));
            DUE.is("to who waits for 99", 2, x.holder(99));
            DUE.is("to none", -1, x.holder(0));
            DUE.is("not there", -2, x.holder(50));
            DUE.is("both are ready", 2, x.count(3));
            DUE.is("10", 1, x.trace(10));
            DUE.is("11", 1, x.trace(11));
        }
    }

    private static void goesToTheForemost() {
        DUE.sentence("it goes to the one of those who wait for it whose STANDING is foremost, who is READY then");
        FairWheel x = new FairWheel();
        x.lock(0);
        Due.write(x, 0, 2, 0, 6, 120, 0);
        for (int t = 0; t < 200; t++) {
            x.task(2, 0, 1);
        }
        x.processors(4);
        x.run(50);
        DUE.is("199 wait for one", 0, x.count(3));
        x.deadline(150, 900, 1);
        x.deadline(151, 899, 1);
        x.deadline(152, 899, 1);
        x.run(71);
        DUE.is("the foremost of 199", 151, x.holder(0));
        DUE.is("ready then", 0, x.about(151, 6));
        x.run(1);
        DUE.is("it sleeps with it", 3, x.about(151, 6));
        x.run(120);
        DUE.is("the next", 152, x.holder(0));
        x.run(121);
        DUE.is("the next", 150, x.holder(0));
        x.run(121);
        DUE.is("then by numbers", 1, x.holder(0));
        DUE.is("check", -1, x.check());
    }

    private static void freeWithoutAny() {
        DUE.sentence("it is free without any");
        DUE.is("given", -1, done(0, 2, 0, 3, 0, 1, 9).holder(0));
        DUE.is("left", -1, done(0, 2, 0, 2, 99, 0).holder(0));
        DUE.is("left", -1, done(0, 2, 0, 2, 99, 0).holder(99));
        FairWheel x = done(0, 2, 0, 0);
        DUE.is("none got it", 0, x.trace(10) + x.trace(11));
        x.task(0, 0, 1);
        x.run(1);
        DUE.is("another one took it and left it", 0, x.about(1, 9));
    }

    private ActEdgesTest() {
    }
}
