import java.math.BigInteger;
import java.util.ArrayList;
import java.util.List;

/** Each sentence of promises 18 to 27 that names a limit or a refusal, from both its sides. */
public final class ReplayEdgesTest {
    private static final Due DUE = new Due("ReplayEdgesTest");
    private static final int[] FAR = {Integer.MIN_VALUE, Integer.MIN_VALUE + 1, -65536, 65536, Integer.MAX_VALUE};

    public static void main(String[] args) {
        forgeGrows();
        forgeKernel();
        forgeRefused();
        checkAlike();
        checkFirstUnlike();
        checkFromTheBeginning();
        checkOfEachCall();
        checkTillTheImage();
        checkOfPrograms();
        checkedToUnlike();
        checkedToEnd();
        checkedToBefore();
        boundIsKept();
        boundOfThoseThatEnd();
        boundLent();
        boundOfClassZero();
        boundByPayments();
        boundOfRests();
        boundOfDeadlines();
        boundOfServers();
        boundOfIdle();
        boundDivides();
        boundOfItsStanding();
        boundNotReady();
        trace();
        traceNotByCheck();
        traceAnother();
        counts();
        countRings();
        countNotes();
        notesFull();
        countAnother();
        image();
        imageOfNothing();
        imageKeepsAll();
        load();
        loadOfPrograms();
        loadOfLongRows();
        loadRefused();
        digestWraps();
        digestOfAll();
        status();
        statusOfNone();
        DUE.end();
    }

    private static FairWheel worker(int ticks) {
        FairWheel x = Due.one(0, 3, 1, 100, 0);
        x.task(4, 0, 7);
        x.processors(2);
        x.run(ticks);
        return x;
    }

    private static void forgeGrows() {
        DUE.sentence("A number of a ROW that is kept grows by so much (wrapping)");
        FairWheel x = worker(3);
        for (int k : new int[] {0, 5}) {
            for (int what = 0; what < 5; what++) {
                int was = x.row(k, what);
                DUE.refused("by 0", true, 0, x, x.forge(k, what, 0));
                DUE.is("by 0", was, x.row(k, what));
                DUE.refused("by 1", true, 0, x, x.forge(k, what, 1));
                DUE.is("by 1", was + 1, x.row(k, what));
                x.forge(k, what, -5);
                DUE.is("below", was - 4, x.row(k, what));
                x.forge(k, what, 4 - was + Integer.MAX_VALUE);
                DUE.is("the most", Integer.MAX_VALUE, x.row(k, what));
                x.forge(k, what, 1);
                DUE.is("wrapped", Integer.MIN_VALUE, x.row(k, what));
                x.forge(k, what, -1);
                DUE.is("wrapped back", Integer.MAX_VALUE, x.row(k, what));
                x.forge(k, what, Integer.MIN_VALUE);
                DUE.is("by the least", -1, x.row(k, what));
            }
        }
    }

    private static void forgeKernel() {
        DUE.sentence("the kernel is as it was");
        FairWheel x = worker(3);
        FairWheel y = worker(3);
        for (int k = 0; k < 6; k++) {
            for (int what = 0; what < 5; what++) {
                x.forge(k, what, 17);
            }
        }
        for (int what = 0; what < 8; what++) {
            DUE.is("count " + what, y.count(what), x.count(what));
        }
        DUE.is("chosen", y.chosen(0), x.chosen(0));
        x.run(9);
        y.run(9);
        for (int t = 0; t < 2; t++) {
            for (int what = 0; what < 15; what++) {
                DUE.is("about " + what, y.about(t, what), x.about(t, what));
            }
            DUE.is("virtual", y.virtual(t), x.virtual(t));
        }
        for (int what = 0; what < 5; what++) {
            DUE.is("later rows", y.row(9, what), x.row(9, what));
        }
    }

    private static void forgeRefused() {
        DUE.sentence("False, refused: no such ROW or number (1)");
        FairWheel x = new FairWheel();
        DUE.refused("no row at all", false, 1, x, x.forge(0, 0, 1));
        FairWheel y = worker(3);
        int[][] wrong = {{-1, 0}, {6, 0}, {0, -1}, {0, 5}, {5, 5}, {-1, -1}};
        for (int[] w : wrong) {
            DUE.refused("row " + w[0] + " number " + w[1], false, 1, y, y.forge(w[0], w[1], 1));
        }
        for (int far : FAR) {
            DUE.refused("row far", false, 1, y, y.forge(far, 0, 1));
            DUE.refused("number far", false, 1, y, y.forge(0, far, 1));
        }
        DUE.is("nothing was forged", -1, y.check());
        DUE.refused("the first", true, 0, y, y.forge(0, 0, 1));
        DUE.refused("the last", true, 0, y, y.forge(5, 4, 1));
    }

    private static void checkAlike() {
        DUE.sentence("the ROWS are compared: -1 if all are alike");
        FairWheel x = new FairWheel();
        DUE.is("of nothing", -1, x.check());
        x.run(5);
        DUE.is("without rows", -1, x.check());
        FairWheel y = worker(50);
        DUE.is("of 100 rows", -1, y.check());
        y.forge(99, 4, 5);
        y.forge(99, 4, -5);
        DUE.is("forged and forged back", -1, y.check());
    }

    private static void checkFirstUnlike() {
        DUE.sentence("else the first that is not");
        for (int what = 0; what < 5; what++) {
            FairWheel x = worker(10);
            for (int k = 19; k >= 0; k--) {
                x.forge(k, what, 1 << what * 7);
                DUE.is("number " + what + " of row " + k, k, x.check());
            }
        }
        FairWheel y = worker(10);
        y.forge(19, 0, Integer.MIN_VALUE);
        DUE.is("the last, by the highest bit", 19, y.check());
        y.run(1);
        DUE.is("rows behind it are alike", 19, y.check());
    }

    /** Without any one of these calls, other rows would come. */
    private static void checkFromTheBeginning() {
        DUE.sentence("All that was told and done from the beginning on");
        FairWheel x = new FairWheel();
        x.lock(99);
        Due.write(x, 31, 2, 99, 1, 5, 3, 99, 4, 15, 1, 9, 0);
        Due.write(x, 0, 4, 0, 1, 3, 4, 0, 1, 3, 0);
        x.task(0, 31, 10);
        x.task(3, 31, 20);
        x.task(1, 0, 30);
        x.task(2, 0, 40);
        DUE.is("told", -1, x.check());
        x.deadline(2, 9, 2);
        x.deadline(3, 7, 3);
        x.run(5);
        DUE.is("deadlines", -1, x.check());
        x.processors(3);
        x.run(20);
        DUE.is("processors", -1, x.check());
        x.ring(0);
        x.run(2);
        x.ring(15);
        x.share(0, 1000);
        x.share(1, 1);
        x.run(8);
        DUE.is("bells and shares", -1, x.check());
        x.ring(0);
        x.task(4, 31, 1000);
        x.program(0, 0, 1);
        x.run(30);
        DUE.is("late ones", -1, x.check());
        DUE.is("at its end", x.count(0), x.checkedTo());
    }

    /** Each call once, where a kernel that took it for another one would choose otherwise. */
    private static void checkOfEachCall() {
        DUE.sentence("told and done");
        FairWheel processors = Due.one(0, 1, 2, 2, 1, 9, 0);
        processors.processors(2);
        processors.run(20);
        DUE.is("processors(2) is no lock", 7, processors.about(0, 9));
        DUE.is("processors", -1, processors.check());
        FairWheel lock = Due.one(0, 1, 4, 3, 1, 9, 0);
        lock.run(1);
        lock.lock(3);
        lock.run(20);
        DUE.is("lock(3) is no bell", 2, lock.about(0, 6));
        DUE.is("lock", -1, lock.check());
        FairWheel bell = Due.one(0, 1, 4, 3, 2, 3, 1, 9, 0);
        bell.run(1);
        bell.ring(3);
        bell.run(20);
        DUE.is("ring(3) is no lock", 7, bell.about(0, 9));
        DUE.is("ring", -1, bell.check());
        FairWheel share = Due.one(1, 1, 1, 100, 0);
        share.task(0, 0, 1);
        share.deadline(0, 50, 20);
        share.share(0, 7);
        share.deadline(1, 50, 20);
        share.run(60);
        DUE.is("share is no deadline", 0, share.row(19, 3));
        DUE.is("share", -1, share.check());
        FairWheel task = Due.one(4, 2, 1, 100, 0);
        task.task(3, 0, 3);
        task.task(2, 0, 1000);
        task.run(60);
        DUE.is("task", -1, task.check());
        FairWheel run = Due.one(0, 2, 1, 100, 0);
        run.run(0);
        run.run(3);
        run.run(1001);
        run.run(1);
        DUE.is("run", -1, run.check());
        DUE.is("run", 4, run.checkedTo());
    }

    private static void checkTillTheImage() {
        DUE.sentence("(or till the image that was loaded, and behind it)");
        FairWheel x = worker(5);
        x.image();
        x.task(0, 0, 1000);
        x.processors(4);
        x.run(9);
        DUE.is("an image that was not loaded", -1, x.check());
        x.load();
        DUE.is("till the image", -1, x.check());
        DUE.is("its clock", 5, x.checkedTo());
        x.share(0, 900);
        x.run(9);
        DUE.is("and behind it", -1, x.check());
        DUE.is("its clock", 14, x.checkedTo());
        x.forge(3, 2, 1);
        x.load();
        DUE.is("what was forged behind the image is gone", -1, x.check());
        x.forge(3, 2, 1);
        x.image();
        x.forge(3, 2, -1);
        DUE.is("forged back", -1, x.check());
        x.load();
        DUE.is("what was forged before the image is back", 3, x.check());
    }

    /** A TASK that runs beyond its PROGRAM would go on, had an earlier check left bytes there. */
    private static void checkOfPrograms() {
        DUE.sentence("is done once more, by another kernel");
        FairWheel x = new FairWheel();
        for (int p : new int[] {0, 31}) {
            Due.write(x, p, 1, 4);
            x.task(0, p, 1);
        }
        x.run(20);
        DUE.is("beyond it", 2, x.about(0, 9));
        DUE.is("rows", 10, x.count(4));
        for (int i = 0; i < 3; i++) {
            DUE.is("check " + i, -1, x.check());
        }
        FairWheel y = new FairWheel();
        y.image();
        y.program(7, 0, 1);
        y.lock(0);
        y.task(0, 7, 1);
        y.processors(4);
        y.run(5);
        DUE.is("a program that is there", -1, y.check());
        y.load();
        y.task(0, 7, 1);
        y.task(0, 8, 1);
        Due.write(y, 8, 2, 0, 1, 9, 0);
        y.run(20);
        DUE.is("a program that is not there any more", 1, y.about(0, 9));
        DUE.is("a lock that is not there any more", 7, y.about(1, 9));
        DUE.is("check", -1, y.check());
        DUE.is("at its end", 20, y.checkedTo());
    }

    private static void checkedToUnlike() {
        DUE.sentence("The clock of the latest check at which it found a ROW unlike");
        FairWheel x = worker(10);
        x.run(1000);
        for (int k : new int[] {19, 18, 1, 0}) {
            x.forge(k, 0, 100);
            DUE.is("row " + k, k, x.check());
            DUE.is("clock of row " + k, k / 2, x.checkedTo());
        }
        FairWheel y = Due.one(0, 1, 6, 100, 1, 9, 0);
        y.run(500);
        y.forge(1, 3, 1);
        y.check();
        DUE.is("behind a sleep", 100, y.checkedTo());
    }

    private static void checkedToEnd() {
        DUE.sentence("the clock at its end if all were alike");
        FairWheel x = new FairWheel();
        x.check();
        DUE.is("of nothing", 0, x.checkedTo());
        x.run(1000);
        DUE.is("not without a check", 0, x.checkedTo());
        x.check();
        DUE.is("without rows", 1000, x.checkedTo());
        FairWheel y = worker(10);
        y.run(1000);
        y.check();
        DUE.is("behind the last row", 1010, y.checkedTo());
        y.forge(0, 0, 1);
        y.check();
        DUE.is("of the latest one", 0, y.checkedTo());
        y.forge(0, 0, -1);
        y.check();
        DUE.is("of the latest one", 1010, y.checkedTo());
        y.image();
        y.run(5);
        y.check();
        y.load();
        DUE.is("a load is no check", 1015, y.checkedTo());
    }

    private static void checkedToBefore() {
        DUE.sentence("-1 before any");
        FairWheel x = new FairWheel();
        DUE.is("new", -1, x.checkedTo());
        x.run(5);
        x.image();
        x.load();
        x.digest();
        DUE.is("no check yet", -1, x.checkedTo());
        x.check();
        DUE.is("one", 5, x.checkedTo());
    }

    /** TASKS of these KINDS and SHARES behind so many ticks, all at work. */
    private static FairWheel queue(int ticks, int[] kinds, int[] shares) {
        FairWheel x = new FairWheel();
        Due.write(x, 0, Due.work(4000));
        for (int i = 0; i < kinds.length; i++) {
            x.task(kinds[i], 0, shares[i]);
        }
        x.run(ticks);
        return x;
    }

    /** Who is chosen pays, or spends; none is refilled meanwhile. */
    private static boolean chosenWithin(FairWheel x, int t, int ticks) {
        long paid = x.virtual(t);
        int left = x.about(t, 13);
        int refilled = x.trace(9);
        x.run(ticks);
        DUE.is("none is refilled", refilled, x.trace(9));
        return x.virtual(t) > paid || x.about(t, 13) < left;
    }

    private static void boundIsKept() {
        DUE.sentence("For a READY TASK t, a number of TICKS within which it is chosen");
        int[] kinds = {0, 1, 2, 3, 4, 0};
        int[] shares = {1, 30, 200, 7, 999, 3};
        for (int t = 0; t < 6; t++) {
            for (int p = 1; p <= 4; p++) {
                for (int ticks = 1; ticks < 14; ticks += 4) {
                    FairWheel x = queue(ticks, kinds, shares);
                    x.deadline(1, 1000, 5);
                    x.deadline(2, 999, 9);
                    x.processors(p);
                    int bound = (int) x.bound(t);
                    DUE.is("there is one", true, bound > 0 && bound <= 1000);
                    DUE.is("task " + t + " within " + bound, true, chosenWithin(x, t, bound));
                }
            }
        }
    }

    private static void boundOfThoseThatEnd() {
        DUE.sentence("(those that END or SLEEP may)");
        for (int p = 1; p <= 4; p++) {
            FairWheel x = new FairWheel();
            Due.write(x, 0, 1, 100, 0);
            Due.write(x, 1, 1, 2, 0);
            Due.write(x, 2, 1, 3, 6, 127, 0);
            x.task(0, 0, 1);
            x.run(1);
            for (int t = 1; t < 9; t++) {
                x.task(t < 3 ? 0 : t < 6 ? 3 : 4, t % 3, 50);
                x.share(t, 30);
            }
            x.task(0, 0, 1);
            x.processors(p);
            int bound = (int) x.bound(9);
            DUE.is("9 at an equal virtual, one payment each", 9 / p + 1, bound);
            x.share(9, 10);
            x.run(bound);
            DUE.is("it was chosen and paid", true, x.virtual(9) > 1000);
            int last = (int) x.bound(0);
            DUE.is("the first one's", true, last > 0 && last <= 1000);
            DUE.is("chosen by then", true, chosenWithin(x, 0, last));
        }
    }

    /** Two that hold locks for which Deadline ones wait; another one is behind both. */
    private static FairWheel lenders() {
        FairWheel x = new FairWheel();
        x.processors(4);
        for (int l = 0; l < 2; l++) {
            x.lock(l);
            Due.write(x, l, 2, l, 1, 100, 0);
            Due.write(x, 2 + l, 6, 1, 2, l, 0);
            x.task(0, l, 1);
            x.task(1, 2 + l, 1);
        }
        x.run(2);
        Due.write(x, 4, 1, 100, 0);
        x.task(0, 4, 1);
        x.deadline(1, 500, 3);
        x.deadline(3, 400, 3);
        return x;
    }

    private static void boundLent() {
        DUE.sentence("M have one that is not their own RANK");
        FairWheel x = lenders();
        DUE.is("0 has the rank of 1", 1, x.standing(0, 2));
        DUE.is("2 has the rank of 3", 3, x.standing(2, 2));
        long[] due = {-1, -1, 1, 1};
        for (int p = 1; p <= 4; p++) {
            x.processors(p);
            DUE.is("M is 2, by " + p, due[p - 1], x.bound(4));
        }
        long[] next = {-1, 1, 1, 1};
        for (int p = 1; p <= 4; p++) {
            x.processors(p);
            DUE.is("M is 1, by " + p, next[p - 1], x.bound(0));
            DUE.is("M is 0, by " + p, 1, x.bound(2));
        }
        x.task(1, 4, 1);
        x.deadline(5, 300, 6);
        long[] more = {-1, -1, 7, 4};
        for (int p = 1; p <= 4; p++) {
            x.processors(p);
            DUE.is("M is 2, S is 6, by " + p, more[p - 1], x.bound(4));
            DUE.is("M is 0 for one whose deadline is ahead of both, by " + p, 1, x.bound(5));
        }
    }

    private static void boundOfClassZero() {
        DUE.sentence("each other one counts: LEFT, if t's STANDING is of CLASS 0");
        FairWheel x = queue(1, new int[] {0, 1, 2, 1, 2}, new int[] {1, 1, 1, 1, 1});
        x.deadline(1, 10, 3);
        x.deadline(2, 10, 4);
        x.deadline(3, 11, 5);
        x.deadline(4, 900, 1);
        DUE.is("the foremost", 1, x.bound(1));
        DUE.is("3", 4, x.bound(2));
        DUE.is("3 and 4", 8, x.bound(3));
        DUE.is("3, 4 and 5", 13, x.bound(4));
        x.deadline(3, 11, 0);
        DUE.is("none left is not ahead", 8, x.bound(4));
        x.deadline(3, 11, 1);
        DUE.is("one left", 9, x.bound(4));
        x.deadline(1, 1000, 1000);
        DUE.is("one that is behind does not count", 6, x.bound(4));
        x.deadline(1, 899, 899);
        DUE.is("it is ahead again", 899 + 6, x.bound(4));
    }

    private static void boundByPayments() {
        DUE.sentence("else by F, the least number of payments behind which its VIRTUAL would be behind t's STANDING: F");
        for (int share : new int[] {1, 2, 10, 333, 999, 1000}) {
            FairWheel x = queue(0, new int[] {0, 0}, new int[] {share, share});
            DUE.is("0 is foremost", 1, x.bound(0));
            DUE.is("equal virtual, the lower number: one payment", 2, x.bound(1));
        }
        FairWheel x = queue(1, new int[] {0, 0}, new int[] {1, 1000});
        DUE.is("1 pays 1,000 times one to be behind by number", 1001, x.bound(0));
        x.share(1, 500);
        DUE.is("1 pays 500 times two", 501, x.bound(0));
        x.share(1, 501);
        DUE.is("1 pays 501 times", 502, x.bound(0));
        x.share(1, 1);
        DUE.is("1 pays once", 2, x.bound(0));
        FairWheel y = queue(2, new int[] {0, 0}, new int[] {1, 1});
        DUE.is("both paid", 2, y.bound(1));
        y.share(0, 1000);
        y.run(1);
        DUE.is("0 paid one", 1001, y.virtual(0));
        DUE.is("1 pays once", 2, y.bound(0));
        FairWheel z = queue(1, new int[] {0, 0, 0}, new int[] {1000, 1000, 1});
        DUE.is("0 at 1; 1 pays once, which is behind by number, 2 pays once", 3, z.bound(0));
        DUE.is("the foremost", 1, z.bound(1));
        DUE.is("1 pays once; 0 is behind already", 2, z.bound(2));
    }

    private static long paymentsByTrial(long virtual, int rest, int share, long key, boolean lower) {
        long f = 0;
        long v = virtual;
        int r = rest;
        while (v < key || v == key && lower) {
            v += (1000 + r) / share;
            r = (1000 + r) % share;
            f++;
        }
        return f;
    }

    private static void boundOfRests() {
        DUE.sentence("the least number of payments");
        int[] shares = {1, 3, 7, 499, 501, 666, 667, 998, 999, 1000};
        for (int first : shares) {
            for (int second : shares) {
                for (int ticks = 1; ticks <= 9; ticks += 2) {
                    FairWheel x = queue(ticks, new int[] {0, 0}, new int[] {first, second});
                    for (int t = 0; t < 2; t++) {
                        int u = 1 - t;
                        long f = paymentsByTrial(x.virtual(u), x.about(u, 3), x.about(u, 2), x.virtual(t), u < t);
                        DUE.is(first + ", " + second + " behind " + ticks, f + 1, x.bound(t));
                    }
                }
            }
        }
    }

    /** t is 0 at a VIRTUAL of 1,000; the other is at 0, with a share of 100: 100 payments. */
    private static void boundOfDeadlines() {
        DUE.sentence("LEFT + F for a Deadline one");
        FairWheel x = queue(1, new int[] {0, 1}, new int[] {1, 100});
        DUE.is("none left", 101, x.bound(0));
        x.deadline(1, 900, 1);
        DUE.is("1 left", 102, x.bound(0));
        x.deadline(1, 900, 900);
        DUE.is("900 left", 1001, x.bound(0));
        FairWheel y = queue(1, new int[] {1, 0}, new int[] {1, 100});
        DUE.is("its virtual is behind", 1, y.bound(1));
        y.deadline(0, 900, 7);
        DUE.is("7 left, and no payment", 8, y.bound(1));
    }

    private static void boundOfServers() {
        DUE.sentence("the greater of both for a Server one");
        FairWheel x = queue(1, new int[] {0, 2}, new int[] {1, 100});
        int[][] leftAndBound = {{0, 101}, {1, 101}, {99, 101}, {100, 101}, {101, 102}, {900, 901}};
        for (int[] due : leftAndBound) {
            x.deadline(1, 900, due[0]);
            DUE.is(due[0] + " left", due[1], x.bound(0));
        }
        FairWheel y = queue(1, new int[] {2, 0}, new int[] {1, 100});
        y.deadline(0, 900, 7);
        DUE.is("7 left, and no payment", 8, y.bound(1));
    }

    private static void boundOfIdle() {
        DUE.sentence("half of F, rounded up, for an Idle one");
        int[][] shareAndBound = {{100, 51}, {101, 52}, {102, 52}, {1, 2}, {2, 2}, {3, 3}, {1000, 501}, {999, 501}};
        for (int[] due : shareAndBound) {
            FairWheel x = queue(1, new int[] {0, 4}, new int[] {1, due[0]});
            DUE.is("F is " + due[0], due[1], x.bound(0));
            DUE.is("chosen by then", true, chosenWithin(x, 0, due[1]));
        }
        FairWheel y = queue(1, new int[] {0, 3}, new int[] {1, 100});
        DUE.is("not for a Batch one", 101, y.bound(0));
    }

    private static void boundDivides() {
        DUE.sentence("-1 if M is PROCESSORS or more; else S / (PROCESSORS - M) + 1");
        FairWheel x = queue(1, new int[] {0, 1, 1, 1}, new int[] {1, 1, 1, 1});
        for (int s = 0; s <= 13; s++) {
            x.deadline(1, 900, s);
            x.deadline(2, 900, 0);
            x.deadline(3, 950, 1);
            for (int p = 1; p <= 4; p++) {
                x.processors(p);
                DUE.is("S is " + s + " by " + p, s / p + 1, x.bound(3));
            }
        }
        FairWheel y = lenders();
        y.deadline(1, 500, 0);
        y.task(1, 4, 1);
        for (int s = 0; s <= 5; s++) {
            y.deadline(5, 300, s);
            y.task(1, 4, 1);
            int t = y.count(1) - 1;
            y.deadline(t, 1000, 1);
            DUE.is("2 has the rank of 3", 3, y.standing(2, 2));
            for (int p = 1; p <= 4; p++) {
                y.processors(p);
                int sum = s + t - 6;
                DUE.is("S is " + sum + ", M is 1, by " + p, p == 1 ? -1 : sum / (p - 1) + 1, y.bound(t));
            }
        }
    }

    private static void boundOfItsStanding() {
        DUE.sentence("Of the READY ones whose STANDING is ahead of t's");
        FairWheel x = lenders();
        x.processors(1);
        x.deadline(1, 500, 0);
        x.task(2, 4, 1);
        x.deadline(5, 450, 4);
        DUE.is("2 has a standing of class 0 by 3", 1, x.bound(2));
        x.deadline(5, 300, 4);
        DUE.is("one of class 0 is ahead of it", 5, x.bound(2));
        x.deadline(3, 300, 3);
        DUE.is("an equal deadline: the lender's number is lower", 1, x.bound(2));
        FairWheel y = new FairWheel();
        y.lock(0);
        Due.write(y, 0, 2, 0, 1, 100, 0);
        Due.write(y, 1, 6, 1, 2, 0, 0);
        Due.write(y, 2, 4, 0, 0);
        y.processors(3);
        y.task(0, 0, 1);
        y.task(2, 1, 1000);
        y.task(1, 2, 1);
        y.run(2);
        y.processors(1);
        y.deadline(2, 5, 5);
        DUE.is("one that waits is ahead, but not ready", 1, y.bound(0));
        DUE.is("its key is that of who waits", 2, y.standing(0, 1));
        y.task(0, 0, 100);
        DUE.is("the new one has the least", 2, y.virtual(3));
        DUE.is("F is by the number of who waits, 1", 1, y.bound(0));
        DUE.is("0 is ahead by a rank that is not its own", -1, y.bound(3));
        y.processors(2);
        DUE.is("by another processor", 1, y.bound(3));
    }

    private static void boundNotReady() {
        DUE.sentence("-1 if t is not READY");
        FairWheel x = new FairWheel();
        x.lock(0);
        Due.write(x, 0, 2, 0, 1, 100, 0);
        Due.write(x, 1, 2, 0, 0);
        Due.write(x, 2, 4, 0, 0);
        Due.write(x, 3, 6, 100, 0);
        Due.write(x, 4, 0);
        x.processors(4);
        for (int t = 0; t < 5; t++) {
            x.task(0, t, 1);
            DUE.is("ready at first", true, x.bound(t) > 0);
        }
        x.run(2);
        DUE.is("ready", true, x.bound(0) > 0);
        for (int t = 1; t < 5; t++) {
            DUE.is("state of " + t, t, x.about(t, 6));
            DUE.is("not ready " + t, -1, x.bound(t));
        }
        DUE.is("task -1", -1, x.bound(-1));
        DUE.is("task 5", -1, x.bound(5));
        for (int far : FAR) {
            DUE.is("far", -1, x.bound(far));
        }
    }

    private static void trace() {
        DUE.sentence("How often a BODY ran");
        FairWheel x = worker(0);
        for (int body = 0; body < 12; body++) {
            DUE.is("none at first", 0, x.trace(body));
        }
        x.run(7);
        int[] due = {21, 0, 7, 0, 0, 0, 14, 0, 0, 0, 0, 0};
        for (int body = 0; body < 12; body++) {
            DUE.is("body " + body, due[body], x.trace(body));
        }
    }

    private static void traceNotByCheck() {
        DUE.sentence("(by the kernel, not by a check)");
        FairWheel x = worker(7);
        x.check();
        x.check();
        x.image();
        x.digest();
        x.bound(0);
        DUE.is("0", 21, x.trace(0));
        DUE.is("6", 14, x.trace(6));
        x.run(1);
        x.load();
        DUE.is("as the image kept it", 21, x.trace(0));
    }

    private static void traceAnother() {
        DUE.sentence("-1 for another number");
        FairWheel x = worker(7);
        DUE.is("-1", -1, x.trace(-1));
        DUE.is("12", -1, x.trace(12));
        DUE.is("the first", 21, x.trace(0));
        DUE.is("the last", 0, x.trace(11));
        for (int far : FAR) {
            DUE.is("far", -1, x.trace(far));
        }
    }

    private static void counts() {
        DUE.sentence("0 the clock, 1 how many TASKS, 2 how many have not ENDED, 3 are READY, 4 ROWS, 5 processors");
        FairWheel x = new FairWheel();
        Due.write(x, 0, 0);
        Due.write(x, 1, 4, 0, 0);
        Due.write(x, 2, 6, 100, 0);
        Due.write(x, 3, 1, 100, 0);
        for (int t = 0; t < 8; t++) {
            x.task(0, t / 2, 1);
        }
        x.processors(4);
        int[] first = {0, 8, 8, 8, 0, 4};
        int[] then = {1, 8, 6, 4, 4, 4};
        int[] last = {3, 8, 6, 2, 10, 4};
        for (int what = 0; what < 6; what++) {
            DUE.is("told, " + what, first[what], x.count(what));
        }
        x.run(1);
        for (int what = 0; what < 6; what++) {
            DUE.is("a tick, " + what, then[what], x.count(what));
        }
        x.run(2);
        for (int what = 0; what < 6; what++) {
            DUE.is("three ticks, " + what, last[what], x.count(what));
        }
    }

    private static void countRings() {
        DUE.sentence("6 how many RINGS were refused");
        FairWheel x = new FairWheel();
        x.lock(0);
        x.lock(1);
        Due.write(x, 0, 2, 0, 6, 2, 2, 1, 0);
        Due.write(x, 1, 2, 1, 6, 3, 2, 0, 0);
        x.processors(2);
        for (int n = 0; n < 5; n++) {
            DUE.is("so far", n, x.count(6));
            x.task(0, 0, 1);
            x.task(0, 1, 1);
            x.run(20);
        }
        DUE.is("five", 5, x.count(6));
        x.check();
        DUE.is("a check has its own", 5, x.count(6));
    }

    private static void countNotes() {
        DUE.sentence("7 NOTES: one for each call");
        FairWheel x = new FairWheel();
        int notes = 0;
        x.program(0, 0, 0);
        DUE.is("program", ++notes, x.count(7));
        x.task(1, 0, 1);
        DUE.is("task", ++notes, x.count(7));
        x.share(0, 1);
        DUE.is("share", ++notes, x.count(7));
        x.deadline(0, 100, 0);
        DUE.is("deadline", ++notes, x.count(7));
        x.processors(1);
        DUE.is("processors", ++notes, x.count(7));
        x.lock(0);
        DUE.is("lock", ++notes, x.count(7));
        x.ring(0);
        DUE.is("ring", ++notes, x.count(7));
        x.run(0);
        DUE.is("run", ++notes, x.count(7));
        x.run(1);
        DUE.is("run", ++notes, x.count(7));
        x.forge(0, 0, 1);
        x.check();
        x.image();
        x.load();
        x.bound(0);
        x.status();
        DUE.is("no other call", notes, x.count(7));
    }

    /** Beyond the 512 calls of an object, but the document tells the limit. */
    private static void notesFull() {
        DUE.sentence("(1,000 at most: one more is refused, 5, which is asked last)");
        FairWheel x = new FairWheel();
        x.task(2, 0, 9);
        for (int i = 1; i < 999; i++) {
            x.run(0);
        }
        DUE.is("one is left", 999, x.count(7));
        DUE.refused("the last", 0, 0, x, x.run(0));
        DUE.is("all", 1000, x.count(7));
        DUE.refused("run", -1, 5, x, x.run(1));
        DUE.refused("run, wrong", -1, 1, x, x.run(1001));
        DUE.refused("task", -1, 5, x, x.task(0, 0, 1));
        DUE.refused("task, wrong", -1, 1, x, x.task(0, 0, 0));
        DUE.refused("program", -1, 5, x, x.program(0, 0, 1));
        DUE.refused("program, wrong", -1, 1, x, x.program(0, 0, 9));
        DUE.refused("share", -1, 5, x, x.share(0, 8));
        DUE.refused("share, wrong", -1, 3, x, x.share(1, 1));
        DUE.refused("processors", -1, 5, x, x.processors(2));
        DUE.refused("processors, wrong", -1, 1, x, x.processors(5));
        DUE.refused("ring", -1, 5, x, x.ring(0));
        DUE.refused("ring, wrong", -1, 1, x, x.ring(16));
        DUE.refused("lock", false, 5, x, x.lock(0));
        DUE.refused("lock, wrong", false, 1, x, x.lock(100));
        DUE.refused("deadline", false, 5, x, x.deadline(0, 9, 9));
        DUE.refused("deadline, wrong", false, 1, x, x.deadline(0, 9, 10));
        DUE.is("still", 1000, x.count(7));
        DUE.is("a check takes none", -1, x.check());
        DUE.is("an image takes none", x.digest(), x.image());
        DUE.refused("a load takes none", true, 0, x, x.load());
        DUE.is("nothing was told", 1, x.count(1));
        DUE.is("nothing was done", 0, x.count(0));
        DUE.is("no lock", -2, x.holder(0));
        DUE.is("no share", 9, x.about(0, 2));
        DUE.is("no period", 100, x.about(0, 10));
        DUE.is("one processor", 1, x.count(5));
    }

    private static void countAnother() {
        DUE.sentence("which is asked last); -1 for another");
        FairWheel x = worker(3);
        DUE.is("-1", -1, x.count(-1));
        DUE.is("8", -1, x.count(8));
        for (int far : FAR) {
            DUE.is("far", -1, x.count(far));
        }
    }

    private static void image() {
        DUE.sentence("Keeps the whole kernel, its ROWS and notes: its digest");
        FairWheel x = worker(3);
        long first = x.digest();
        DUE.is("its digest", first, x.image());
        x.run(1);
        DUE.is("it changes nothing", 4, x.count(0));
        long second = x.image();
        DUE.is("another one", x.digest(), second);
        DUE.is("another one", false, first == second);
        x.run(1);
        x.load();
        DUE.is("the latest is kept", second, x.digest());
        DUE.is("notes", 6, x.count(7));
    }

    private static void imageOfNothing() {
        DUE.sentence("Keeps the whole kernel");
        FairWheel x = new FairWheel();
        DUE.is("its digest", x.digest(), x.image());
        long empty = x.digest();
        x.program(0, 0, 1);
        x.lock(0);
        x.processors(4);
        x.task(2, 0, 1);
        x.run(5);
        x.forge(0, 0, 1);
        DUE.is("back to nothing", true, x.load());
        DUE.is("digest", empty, x.digest());
        int[] counts = {0, 0, 0, 0, 0, 1, 0, 0};
        for (int what = 0; what < 8; what++) {
            DUE.is("count " + what, counts[what], x.count(what));
        }
        DUE.is("no choice", -1, x.chosen(0));
        DUE.is("no task", -1, x.about(0, 0));
        DUE.is("no lock", true, x.lock(0));
        DUE.is("the first task again", 0, x.task(0, 0, 1));
        x.run(1);
        DUE.is("no program", 1, x.about(0, 9));
        DUE.is("check", -1, x.check());
    }

    /** TASKS in each state, with rows of short numbers, locks held and a ring. */
    private static FairWheel mixed() {
        FairWheel x = new FairWheel();
        x.lock(0);
        x.lock(99);
        Due.write(x, 0, 8, 2, 9, 0, 2, 0, 6, 2, 9, 1, 2, 99, 1, 100, 0);
        Due.write(x, 1, 8, 1, 6, 1, 9, 0, 2, 99, 6, 3, 2, 0, 0);
        Due.write(x, 2, 8, 127, 6, 2, 9, 0, 9, 126, 4, 7, 0);
        Due.write(x, 3, 1, 1, 6, 90, 0);
        x.processors(3);
        for (int t = 0; t < 12; t++) {
            x.task(t % 5, t % 4, 3 + t);
        }
        x.deadline(1, 7, 2);
        x.deadline(6, 5, 5);
        x.run(14);
        return x;
    }

    private static void imageKeepsAll() {
        DUE.sentence("the whole kernel, its ROWS and notes");
        FairWheel plain = mixed();
        int states = 0;
        for (int t = 0; t < 12; t++) {
            states |= 1 << plain.about(t, 6);
        }
        DUE.is("every state is there", 31, states);
        DUE.is("a ring is there", true, plain.count(6) > 0);
        for (int part = 0; part < 3; part++) {
            FairWheel x = mixed();
            x.image();
            x.ring(7);
            x.processors(1);
            x.deadline(2, 77, 66);
            x.share(2, 55);
            x.run(500);
            x.lock(50);
            x.task(0, 0, 1);
            x.forge(0, 0, 1);
            x.load();
            List<Long> due = asked(mixed(), part);
            List<Long> got = asked(x, part);
            DUE.is("as many answers", due.size(), got.size());
            for (int i = 0; i < due.size(); i++) {
                DUE.is("answer " + i + " of part " + part, due.get(i), got.get(i));
            }
        }
    }

    /** All that can be asked, in three parts, so that none goes beyond the calls of an object. */
    private static List<Long> asked(FairWheel x, int part) {
        List<Long> all = new ArrayList<>();
        for (int i = 0; part == 0 && i < 100; i++) {
            all.add((long) x.holder(i));
            all.add((long) x.count(i));
            all.add((long) x.trace(i));
        }
        for (int i = 0; part == 0 && i < 14; i++) {
            all.add((long) x.ringed(i));
            all.add((long) x.chosen(i));
        }
        int tasks = part == 1 ? x.count(1) : -1;
        for (int t = 0; t <= tasks; t++) {
            for (int what = 0; what < 15; what++) {
                all.add((long) x.about(t, what));
            }
            for (int what = 0; what < 3; what++) {
                all.add(x.standing(t, what));
            }
            all.add(x.virtual(t));
            all.add(x.bound(t));
        }
        for (int t = 0; part == 2 && t <= 12; t++) {
            for (int i : new int[] {0, 1, 2, 125, 126}) {
                all.add((long) x.small(t, i));
            }
        }
        int rows = part == 2 ? x.count(4) : -1;
        for (int k = 0; k <= rows; k++) {
            for (int what = 0; what < 5; what++) {
                all.add((long) x.row(k, what));
            }
        }
        return all;
    }

    private static void load() {
        DUE.sentence("The kernel is as the image kept it: true");
        FairWheel x = worker(3);
        x.image();
        int[] due = {x.chosen(0), x.chosen(1), x.chosen(2)};
        long kept = x.digest();
        for (int i = 0; i < 3; i++) {
            x.processors(4);
            x.task(0, 0, 1);
            x.run(1 + i);
            x.program(0, 0, 8);
            DUE.refused("load", true, 0, x, x.load());
            DUE.is("as it was", kept, x.digest());
            for (int p = 0; p < 3; p++) {
                DUE.is("chosen " + p, due[p], x.chosen(p));
            }
            DUE.is("notes", 5, x.count(7));
        }
        x.run(9);
        FairWheel y = worker(3);
        y.run(9);
        DUE.is("it goes on from there", y.digest(), x.digest());
        FairWheel z = Due.one(0, 1, 1, 9, 0);
        z.run(1);
        z.image();
        z.run(20);
        DUE.is("none is chosen at last", -1, z.chosen(0));
        z.load();
        DUE.is("chosen as it was", 0, z.chosen(0));
    }

    private static void loadOfPrograms() {
        DUE.sentence("The kernel is as the image kept it");
        for (int p : new int[] {0, 31}) {
            FairWheel x = new FairWheel();
            Due.write(x, p, 5, 0, 5, 1);
            x.image();
            x.program(p, Due.eight(5, 2, 1, 9, 1, 9, 1, 9), 8);
            for (int i = 0; i < 12; i++) {
                x.program(p, Due.eight(1, 9, 1, 9, 1, 9, 1, 9), 8);
            }
            DUE.is("longer", 108, x.program(p, 0, 0));
            x.load();
            DUE.is("as long as it was", 4, x.program(p, 0, 0));
            DUE.is("other bytes come behind", 6, x.program(p, Due.eight(1, 3), 2));
            x.task(0, p, 1);
            x.run(1);
            DUE.is("its bytes", 6, x.about(0, 5));
            DUE.is("its bytes", 2, x.about(0, 4));
            DUE.is("check", -1, x.check());
            x.load();
            DUE.is("as long as it was", 4, x.program(p, 0, 0));
        }
    }

    private static void loadOfLongRows() {
        DUE.sentence("its ROWS and notes");
        FairWheel x = new FairWheel();
        Due.write(x, 0, Due.work(4000));
        for (int t = 0; t < 4; t++) {
            x.task(0, 0, 1 + t);
        }
        x.processors(4);
        x.run(10);
        x.image();
        x.run(1000);
        x.run(1000);
        DUE.is("full", 8000, x.count(4));
        long full = x.digest();
        x.load();
        DUE.is("places are free again", 40, x.count(4));
        DUE.is("ticks are done again", 1000, x.run(1000));
        DUE.is("ticks are done again", 990, x.run(1000));
        DUE.is("the same", full, x.digest());
        x.image();
        x.forge(7999, 4, 1);
        x.load();
        DUE.is("the last row too", full, x.digest());
        DUE.is("check", -1, x.check());
        for (int i = 0; i < 300; i++) {
            x.run(0);
        }
        x.image();
        int notes = x.count(7);
        x.run(0);
        x.load();
        DUE.is("notes", notes, x.count(7));
        DUE.is("check", -1, x.check());
    }

    private static void loadRefused() {
        DUE.sentence("false, refused, without one (2)");
        FairWheel x = worker(3);
        long before = x.digest();
        DUE.refused("without one", false, 2, x, x.load());
        DUE.is("nothing changed", before, x.digest());
        FairWheel other = worker(3);
        other.image();
        DUE.refused("another object's is not its own", false, 2, x, x.load());
        x.image();
        DUE.refused("with one", true, 0, x, x.load());
        DUE.refused("it stays", true, 0, x, x.load());
    }

    private static void digestWraps() {
        DUE.sentence("d, of 7, goes over numbers x: d * 31 + x, wrapping at 64 bits");
        FairWheel x = new FairWheel();
        List<Long> all = new ArrayList<>(List.of(0L, 0L, 1L));
        for (int l = 0; l < 100; l++) {
            all.add(-2L);
        }
        for (int body = 0; body < 12; body++) {
            all.add(0L);
        }
        DUE.is("of a new one", wrapped(all), x.digest());
    }

    private static long wrapped(List<Long> all) {
        BigInteger d = BigInteger.valueOf(7);
        for (long n : all) {
            d = d.multiply(BigInteger.valueOf(31)).add(BigInteger.valueOf(n));
        }
        return d.longValue();
    }

    private static void digestOfAll() {
        DUE.sentence("the clock, how many TASKS, processors; for each TASK about(t, 0) to about(t, 14), VIRTUAL, and its"
                + " SHORT numbers; for each lock holder(l); ROWS' numbers in order; trace(0) to trace(11)");
        for (int ticks = 0; ticks < 20; ticks += 3) {
            FairWheel x = new FairWheel();
            x.lock(3);
            Due.write(x, 0, 8, 3, 9, 1, 2, 3, 6, 3, 9, 2, 3, 3, 0);
            x.processors(3);
            for (int kind = 0; kind < 5; kind++) {
                x.task(kind, 0, 7 + kind);
            }
            x.run(ticks);
            if (ticks > 9) {
                x.forge(2, 4, Integer.MIN_VALUE);
            }
            long first = x.digest();
            DUE.is("behind " + ticks, digestOf(x), first);
            DUE.is("once more", first, x.digest());
        }
    }

    private static long digestOf(FairWheel x) {
        List<Long> all = new ArrayList<>(List.of((long) x.count(0), (long) x.count(1), (long) x.count(5)));
        for (int t = 0; t < x.count(1); t++) {
            for (int what = 0; what < 15; what++) {
                all.add((long) x.about(t, what));
            }
            all.add(x.virtual(t));
            for (int i = 0; i < x.about(t, 14); i++) {
                all.add((long) x.small(t, i));
            }
        }
        for (int l = 0; l < 100; l++) {
            all.add((long) x.holder(l));
        }
        for (int k = 0; k < x.count(4); k++) {
            for (int what = 0; what < 5; what++) {
                all.add((long) x.row(k, what));
            }
        }
        for (int body = 0; body < 12; body++) {
            all.add((long) x.trace(body));
        }
        return wrapped(all);
    }

    private static void status() {
        DUE.sentence("Why the latest call that may be refused was: the number told; 0 if it was not");
        FairWheel x = new FairWheel();
        DUE.is("before any", 0, x.status());
        x.lock(0);
        int[][] refusedAndWhy = {{0, 1}, {1, 1}, {2, 3}, {3, 3}, {4, 1}, {5, 1}, {6, 2}, {7, 1}, {8, 1}, {9, 1}, {10, 2}};
        for (int[] r : refusedAndWhy) {
            refuse(x, r[0]);
            DUE.is("call " + r[0], r[1], x.status());
            DUE.is("asked twice", r[1], x.status());
            x.run(0);
            DUE.is("taken", 0, x.status());
        }
        x.task(1, 0, 1);
        x.program(0, Due.eight(1, 9, 0), 3);
        x.run(1);
        x.image();
        for (int taken = 0; taken < 10; taken++) {
            refuse(x, 0);
            take(x, taken);
            DUE.is("taken " + taken, 0, x.status());
        }
    }

    private static void refuse(FairWheel x, int call) {
        switch (call) {
            case 0 -> x.program(32, 0, 1);
            case 1 -> x.task(5, 0, 1);
            case 2 -> x.share(0, 1);
            case 3 -> x.deadline(0, 1, 1);
            case 4 -> x.processors(0);
            case 5 -> x.lock(-1);
            case 6 -> x.lock(0);
            case 7 -> x.ring(-1);
            case 8 -> x.run(-1);
            case 9 -> x.forge(0, 0, 0);
            default -> x.load();
        }
    }

    private static void take(FairWheel x, int call) {
        switch (call) {
            case 0 -> x.program(31, 0, 0);
            case 1 -> x.task(0, 0, 1);
            case 2 -> x.share(0, 1);
            case 3 -> x.deadline(0, 1, 1);
            case 4 -> x.processors(1);
            case 5 -> x.lock(99);
            case 6 -> x.ring(0);
            case 7 -> x.run(0);
            case 8 -> x.forge(0, 0, 0);
            default -> x.load();
        }
    }

    private static void statusOfNone() {
        DUE.sentence("the latest call that may be refused");
        FairWheel x = worker(3);
        for (int why = 1; why <= 3; why++) {
            if (why == 2) {
                x.load();
            } else if (why == 3) {
                x.share(9, 1);
            } else {
                x.run(-1);
            }
            x.chosen(9);
            x.about(9, 9);
            x.virtual(9);
            x.small(9, 9);
            x.standing(9, 9);
            x.holder(-1);
            x.ringed(9);
            x.row(99, 9);
            x.check();
            x.checkedTo();
            x.bound(9);
            x.trace(99);
            x.count(99);
            x.digest();
            x.status();
            DUE.is("a question is not refused", why, x.status());
        }
        x.image();
        DUE.is("an image is not refused", 3, x.status());
    }

    private ReplayEdgesTest() {
    }
}
