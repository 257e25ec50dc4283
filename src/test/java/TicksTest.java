/** Promises 9 to 17 and 22: ticks, choices, payments, acts, faults, locks and bells. */
public final class TicksTest {
    private static final Due DUE = new Due("TicksTest");

    public static void main(String[] args) {
        run();
        rowsEnd();
        chosen();
        payments();
        deadlines();
        faults();
        unreadFaults();
        shorts();
        spawning();
        spawningTooMany();
        sleeping();
        bells();
        lending();
        lendingFar();
        leftLocks();
        lateStanding(0);
        lateStanding(3);
        claims();
        rings();
        bodies();
        wrongQuestions();
        DUE.end();
    }

    private static FairWheel with(int kind, int share, int... bytes) {
        FairWheel x = new FairWheel();
        Due.write(x, 0, bytes);
        x.task(kind, 0, share);
        return x;
    }

    private static void run() {
        FairWheel x = new FairWheel();
        DUE.refused("9 below", -1, 1, x, x.run(-1));
        DUE.refused("9 above", -1, 1, x, x.run(1001));
        DUE.is("9 none", 0, x.run(0));
        DUE.is("9 most", 1000, x.run(1000));
        DUE.is("9 the clock", 1000, x.count(0));
        DUE.is("9 no rows", 0, x.count(4));
        DUE.is("9 notes", 2, x.count(7));
    }

    private static void rowsEnd() {
        FairWheel x = new FairWheel();
        Due.write(x, 0, 8, 1, 9, 0, 12, 0, 0);
        int[] spin = new int[200];
        for (int i = 0; i < 200; i += 2) {
            spin[i] = 1;
            spin[i + 1] = 127;
        }
        Due.write(x, 1, spin);
        x.task(0, 1, 1);
        for (int i = 0; i < 7; i++) {
            DUE.is("9 all", 1000, x.run(1000));
        }
        DUE.is("9 with fewer than four places it stops", 997, x.run(1000));
        DUE.is("17 rows", 7997, x.count(4));
        DUE.is("9 none more", 0, x.run(5));
        DUE.is("27 not refused", 0, x.status());
        DUE.is("9 the clock stays", 7997, x.count(0));
        DUE.is("17 the last row", 7996, x.row(7996, 0));
        DUE.is("17 its key", 7996000, x.row(7996, 4));
        DUE.is("17 none behind", -1, x.row(7997, 0));
        DUE.is("19 check", -1, x.check());
        DUE.is("20 checkedTo", 7997, x.checkedTo());
        x.image();
        DUE.is("18 forged", true, x.forge(7996, 4, -1));
        DUE.is("19 the last row", 7996, x.check());
        DUE.is("25 load", true, x.load());
        DUE.is("19 check", -1, x.check());
        FairWheel y = new FairWheel();
        Due.write(y, 1, spin);
        for (int i = 0; i < 4; i++) {
            y.task(0, 1, 1);
        }
        y.processors(4);
        DUE.is("9 all", 1000, y.run(1000));
        DUE.is("9 all the places are used", 1000, y.run(1000));
        DUE.is("17 rows", 8000, y.count(4));
        DUE.is("9 none more", 0, y.run(1));
        DUE.is("17 the last", 3, y.row(7999, 1));
    }

    private static void chosen() {
        FairWheel x = new FairWheel();
        Due.write(x, 0, 1, 2, 0);
        x.task(0, 0, 1);
        x.task(0, 0, 10);
        x.task(0, 0, 5);
        x.processors(2);
        DUE.is("10 before", -1, x.chosen(0));
        x.run(1);
        DUE.is("10 the lower number", 0, x.chosen(0));
        DUE.is("10 the next", 1, x.chosen(1));
        DUE.is("10 no such", -1, x.chosen(2));
        DUE.is("10 no such", -1, x.chosen(-1));
        DUE.is("10 no such", -1, x.chosen(4));
        x.processors(4);
        DUE.is("10 then there was none", -1, x.chosen(2));
        x.processors(1);
        DUE.is("10 it was there then", 1, x.chosen(1));
        x.run(1);
        DUE.is("10 by virtual", 2, x.chosen(0));
        DUE.is("10 one now", -1, x.chosen(1));
        x.run(0);
        DUE.is("10 no tick", 2, x.chosen(0));
        int[] third = {1, 0, 2, 1, 0};
        int[] first = {0, 0, 0, 1, 0};
        int[] second = {0, 1, 1, 1, 0};
        for (int what = 0; what < 5; what++) {
            DUE.is("17 row 0 " + what, first[what], x.row(0, what));
            DUE.is("17 row 1 " + what, second[what], x.row(1, what));
            DUE.is("17 row 2 " + what, third[what], x.row(2, what));
        }
        DUE.is("17 rows", 3, x.count(4));
        x.run(20);
        DUE.is("10 none is left", -1, x.chosen(0));
        DUE.is("17 nine in all", 9, x.count(4));
    }

    private static void payments() {
        FairWheel x = with(0, 300, 1, 9, 0);
        x.run(1);
        DUE.is("12 cut", 3, x.virtual(0));
        DUE.is("11 rest", 100, x.about(0, 3));
        x.run(2);
        DUE.is("12 three payments", 10, x.virtual(0));
        DUE.is("11 rest is used up", 0, x.about(0, 3));
        FairWheel idle = with(4, 300, 1, 9, 0);
        idle.run(1);
        DUE.is("12 an Idle one pays twice", 6, idle.virtual(0));
        DUE.is("11 rest of both", 200, idle.about(0, 3));
        FairWheel batch = with(3, 300, 1, 9, 0);
        batch.run(1);
        DUE.is("12 a Batch one pays once", 3, batch.virtual(0));
        FairWheel most = with(0, 1000, 1, 9, 0);
        most.run(9);
        DUE.is("12 one each", 9, most.virtual(0));
        DUE.is("12 no such", -1, most.virtual(1));
        DUE.is("12 no such", -1, most.virtual(-1));
    }

    private static void deadlines() {
        FairWheel x = new FairWheel();
        Due.write(x, 0, 1, 100, 0);
        x.task(1, 0, 10);
        x.task(2, 0, 10);
        x.task(0, 0, 10);
        x.deadline(0, 8, 2);
        x.deadline(1, 5, 1);
        DUE.is("14 class", 0, x.standing(0, 0));
        DUE.is("14 key is the deadline", 8, x.standing(0, 1));
        DUE.is("14 class 1", 1, x.standing(2, 0));
        x.run(1);
        DUE.is("10 the earlier deadline", 1, x.chosen(0));
        DUE.is("11 it spent", 0, x.about(1, 13));
        DUE.is("12 a Server pays besides", 100, x.virtual(1));
        x.run(1);
        DUE.is("10 the later deadline", 0, x.chosen(0));
        DUE.is("12 a Deadline one that spent does not pay", 0, x.virtual(0));
        DUE.is("11 but it acts", 99, x.about(0, 4));
        x.run(1);
        DUE.is("11 nothing left", 0, x.about(0, 13));
        DUE.is("14 class by virtual now", 1, x.standing(0, 0));
        x.run(1);
        DUE.is("10 the lower number", 0, x.chosen(0));
        DUE.is("12 without something left it pays", 100, x.virtual(0));
        x.run(1);
        DUE.is("10 the least virtual", 2, x.chosen(0));
        DUE.is("11 not refilled yet", 0, x.about(1, 13));
        DUE.is("11 its deadline", 5, x.about(1, 12));
        DUE.is("22 none refilled", 0, x.trace(9));
        x.run(1);
        DUE.is("22 one refilled", 1, x.trace(9));
        DUE.is("11 a period later", 10, x.about(1, 12));
        DUE.is("10 refilled and chosen", 1, x.chosen(0));
        x.run(3);
        DUE.is("22 the other too", 2, x.trace(9));
        DUE.is("11 a period later", 16, x.about(0, 12));
        int[] classes = {0, 0, 0, 1, 1, 0};
        int[] keys = {5, 8, 8, 0, 0, 10};
        for (int k = 0; k < 6; k++) {
            DUE.is("17 class of row " + k, classes[k], x.row(k, 3));
            DUE.is("17 key of row " + k, keys[k], x.row(k, 4));
        }
        DUE.is("19 check", -1, x.check());
        quietRefills();
    }

    /** Who waits is refilled too; who has ended is not. */
    private static void quietRefills() {
        FairWheel x = with(1, 1, 4, 0, 0);
        x.deadline(0, 3, 2);
        x.run(1);
        DUE.is("11 it spent one", 1, x.about(0, 13));
        x.run(99);
        DUE.is("22 every third tick", 33, x.trace(9));
        DUE.is("11 refilled", 2, x.about(0, 13));
        DUE.is("11 deadline", 102, x.about(0, 12));
        DUE.is("9 one row", 1, x.count(4));
        DUE.is("10 none in the latest tick", -1, x.chosen(0));
        x.ring(0);
        x.run(1);
        DUE.is("11 it ended", 4, x.about(0, 6));
        x.run(50);
        DUE.is("22 no more", 33, x.trace(9));
        DUE.is("11 its deadline stays", 102, x.about(0, 12));
        DUE.is("19 check", -1, x.check());
    }

    private static void fault(String what, int fault, int place, int kind, int... bytes) {
        FairWheel x = with(kind, 1, bytes);
        x.lock(4);
        x.run(1);
        DUE.is("11 fault: " + what, fault, x.about(0, 9));
        DUE.is("11 ended: " + what, 4, x.about(0, 6));
        DUE.is("11 place: " + what, place, x.about(0, 5));
        DUE.is("14 no standing: " + what, -1, x.standing(0, 0));
        DUE.is("15 lock is free: " + what, -1, x.holder(4));
        DUE.is("23 none is ready: " + what, 0, x.count(2) + x.count(3));
        DUE.is("19 check: " + what, -1, x.check());
    }

    private static void faults() {
        fault("end", 0, 0, 0, 0);
        fault("not of kind 1", 3, 0, 0, 10, 1);
        fault("a Deadline one is not Server", 3, 2, 1, 10, 1, 10, 2);
        fault("a Server one is Deadline", 3, 6, 2, 10, 0, 10, 1, 10, 2, 10, 3);
        fault("a Batch one is not Idle", 3, 4, 3, 10, 0, 10, 3, 10, 4);
        fault("an Idle one is Batch", 3, 6, 4, 10, 0, 10, 3, 10, 4, 10, 2);
        fault("kind 5", 10, 0, 0, 10, 5);
        fault("kind -1", 10, 0, 0, 10, -1);
        fault("row below 0", 4, 0, 0, 8, -1);
        fault("row twice", 11, 2, 0, 8, 0, 8, 3);
        fault("row twice ahead of below 0", 11, 2, 0, 8, 0, 8, -3);
        fault("failure 0", 5, 0, 0, 11, 0);
        fault("failure 1", 6, 0, 0, 11, 1);
        fault("failure 2", 6, 0, 0, 11, 2);
        fault("failure 3", 5, 0, 0, 11, 3);
        fault("failure 4", 10, 0, 0, 11, 4);
        fault("failure -1", 10, 0, 0, 11, -1);
        fault("take no lock", 7, 0, 0, 2, 5);
        fault("take lock -128", 7, 0, 0, 2, -128);
        fault("take lock 127", 7, 0, 0, 2, 127);
        fault("give no lock", 7, 0, 0, 3, 5);
        fault("give lock -1", 7, 0, 0, 3, -1);
        fault("give a free lock", 11, 0, 0, 3, 4);
        fault("take twice", 11, 2, 0, 2, 4, 2, 4);
        fault("give twice", 11, 4, 0, 2, 4, 3, 4, 3, 4);
        fault("held at its end", 0, 2, 0, 2, 4, 0);
        fault("9 without a row", 8, 0, 0, 9, 0);
        fault("12 without a row", 8, 0, 0, 12, -1);
        fault("9 beyond the row", 9, 2, 0, 8, 2, 9, 2);
        fault("9 below the row", 9, 2, 0, 8, 2, 9, -1);
        fault("12 beyond the row", 9, 2, 0, 8, 0, 12, 0);
        fault("bell 16", 10, 0, 0, 4, 16);
        fault("bell -1", 10, 0, 0, 4, -1);
        fault("rings bell 16", 10, 0, 0, 5, 16);
        fault("rings bell -1", 10, 0, 0, 5, -1);
        fault("program 32", 10, 0, 0, 7, 32);
        fault("program -1", 10, 0, 0, 7, -1);
        fault("no work", 0, 4, 0, 1, 0, 1, -7, 0);
        fault("no sleep", 0, 4, 0, 6, 0, 6, -7, 0);
        fault("no work by 0", 0, 4, 0, 8, 1, 12, 0, 0);
    }

    private static void unreadFaults() {
        fault("beyond", 2, 2, 0, 5, 0);
        fault("byte behind is beyond", 2, 2, 0, 5, 0, 1);
        fault("0 needs none behind", 0, 2, 0, 5, 0, 0);
        fault("13 ahead of the byte behind", 10, 0, 0, 13);
        fault("-1", 10, 2, 0, 5, 0, -1);
        fault("-128", 10, 0, 0, -128, 0);
        fault("empty", 2, 0, 0);
        FairWheel x = new FairWheel();
        x.task(0, 7, 4);
        x.run(1);
        DUE.is("11 no such program", 1, x.about(0, 9));
        DUE.is("12 but it paid", 250, x.virtual(0));
        DUE.is("17 and was chosen", 1, x.count(4));
    }

    private static void shorts() {
        FairWheel x = with(0, 1, 8, 127, 9, 126, 6, 100, 9, 0, 12, 0, 9, 1, 0);
        DUE.is("11 no row", -1, x.about(0, 14));
        x.run(3);
        DUE.is("11 its row", 127, x.about(0, 14));
        DUE.is("13 of the first tick", 0, x.small(0, 126));
        x.run(98);
        DUE.is("13 the clock", 100, x.small(0, 0));
        DUE.is("11 work by it", 99, x.about(0, 4));
        DUE.is("11 place", 10, x.about(0, 5));
        x.run(99);
        DUE.is("11 no work left", 0, x.about(0, 4));
        DUE.is("13 not yet", 0, x.small(0, 1));
        x.run(1);
        DUE.is("13 the last one", 200, x.small(0, 1));
        DUE.is("13 beyond", 0, x.small(0, 127));
        DUE.is("13 below", 0, x.small(0, -1));
        DUE.is("13 no such task", 0, x.small(1, 0));
        DUE.is("19 check", -1, x.check());
        FairWheel y = with(0, 1, 4, 0, 8, 1, 9, 0, 12, 0, 0);
        for (int i = 0; i < 40; i++) {
            y.run(1000);
        }
        y.ring(0);
        y.run(1);
        DUE.is("13 as a short number", 40000 - 65536, y.small(0, 0));
        DUE.is("11 below 0 it is no work", 4, y.about(0, 6));
        DUE.is("19 check", -1, y.check());
        DUE.is("20 checkedTo", 40001, y.checkedTo());
    }

    private static void spawning() {
        FairWheel x = new FairWheel();
        Due.write(x, 0, 1, 2, 7, 3, 7, 31, 8, 4, 1, 5, 0);
        Due.write(x, 3, 1, 1, 0);
        x.task(2, 0, 300);
        x.deadline(0, 9, 4);
        x.run(2);
        x.share(0, 200);
        DUE.is("23 one", 1, x.count(1));
        x.run(1);
        DUE.is("23 three", 3, x.count(1));
        int[] child = {2, 3, 200, 0, 0, 0, 0, -1, -1, 0, 9, 4, 11, 4, -1};
        for (int what = 0; what < 15; what++) {
            DUE.is("11 it comes as it is " + what, child[what], x.about(1, what));
        }
        DUE.is("11 the other program", 31, x.about(2, 1));
        DUE.is("12 the least virtual, behind the payment", x.virtual(0), x.virtual(1));
        DUE.is("12 virtual", 11, x.virtual(1));
        DUE.is("11 left of the first", 1, x.about(0, 13));
        DUE.is("23 ready", 3, x.count(3));
        x.run(1);
        DUE.is("10 the earlier deadline goes on", 0, x.chosen(0));
        DUE.is("11 it has its row", 4, x.about(0, 14));
        x.run(3);
        DUE.is("11 no such program", 1, x.about(2, 9));
        DUE.is("19 check", -1, x.check());
        FairWheel y = with(0, 7, 7, 0, 1, 50, 0);
        y.run(1);
        DUE.is("11 a Fair one makes a Fair one", 0, y.about(1, 0));
        DUE.is("11 without a deadline", -1, y.about(1, 12));
        DUE.is("10 new ones are not chosen in their tick", 1, y.count(4));
    }

    private static void spawningTooMany() {
        FairWheel x = with(0, 1, 7, 0, 7, 0, 7, 0, 7, 0, 6, 1, 7, 0, 7, 0);
        x.processors(4);
        x.run(60);
        DUE.is("23 200 are there", 200, x.count(1));
        int eleven = 0;
        for (int t = 0; t < 200; t++) {
            eleven += x.about(t, 9) == 11 ? 1 : 0;
        }
        DUE.is("11 one more is fault 11", true, eleven > 0);
        FairWheel y = with(0, 1, 7, 32);
        for (int i = 1; i < 200; i++) {
            y.task(0, 0, 1);
        }
        y.run(1);
        DUE.is("11 no such program ahead of 200", 10, y.about(0, 9));
    }

    private static void sleeping() {
        FairWheel x = with(0, 1, 6, 1, 6, 127, 0);
        x.run(1);
        DUE.is("11 sleeps", 3, x.about(0, 6));
        DUE.is("11 until", 1, x.about(0, 8));
        DUE.is("11 place is behind", 2, x.about(0, 5));
        x.run(1);
        DUE.is("10 awake in the next tick", 0, x.chosen(0));
        DUE.is("11 until", 128, x.about(0, 8));
        x.run(126);
        DUE.is("10 none", -1, x.chosen(0));
        DUE.is("11 sleeps still", 3, x.about(0, 6));
        DUE.is("23 clock", 128, x.count(0));
        DUE.is("20 two rows", 2, x.count(4));
        x.run(1);
        DUE.is("10 awake", 0, x.chosen(0));
        DUE.is("11 ended", 4, x.about(0, 6));
        DUE.is("11 until none", -1, x.about(0, 8));
        DUE.is("17 when", 128, x.row(2, 0));
    }

    private static void bells() {
        FairWheel x = new FairWheel();
        Due.write(x, 0, 4, 2, 1, 1, 0);
        Due.write(x, 1, 1, 3, 5, 2, 5, 2, 1, 9, 0);
        x.task(0, 0, 1);
        x.task(0, 0, 1);
        x.task(0, 1, 1);
        x.processors(3);
        x.run(1);
        DUE.is("11 waits for a bell", 2, x.about(0, 6));
        DUE.is("11 which", 2, x.about(0, 7));
        DUE.is("11 sleeps not", -1, x.about(0, 8));
        DUE.is("22 who waits", 2, x.trace(3));
        x.run(3);
        DUE.is("23 all are ready", 3, x.count(3));
        DUE.is("10 not in the same tick", -1, x.chosen(1));
        x.run(1);
        DUE.is("10 then", 0, x.chosen(0));
        DUE.is("10 then", 1, x.chosen(1));
        DUE.is("11 the ringer goes on", 7, x.about(2, 4));
    }

    /** A lender waits for the holder, who is chosen ahead of others by the rank lent. */
    private static void lending() {
        FairWheel x = new FairWheel();
        x.lock(0);
        Due.write(x, 0, 2, 0, 1, 4, 3, 0, 1, 9, 0);
        Due.write(x, 1, 2, 0, 1, 1, 0);
        Due.write(x, 2, 1, 50, 0);
        x.task(0, 0, 1);
        x.run(1);
        x.task(0, 2, 100);
        DUE.is("12 as the only other", 1000, x.virtual(1));
        x.share(0, 1);
        x.task(1, 1, 1);
        x.deadline(2, 20, 10);
        x.run(1);
        DUE.is("10 class 0 first", 2, x.chosen(0));
        DUE.is("11 it waits", 1, x.about(2, 6));
        DUE.is("11 for lock 0", 0, x.about(2, 7));
        DUE.is("11 place is behind", 2, x.about(2, 5));
        DUE.is("14 lent class", 0, x.standing(0, 0));
        DUE.is("14 lent key", 21, x.standing(0, 1));
        DUE.is("14 lent by", 2, x.standing(0, 2));
        DUE.is("14 its own", 2, x.standing(2, 2));
        DUE.is("14 another what", -1, x.standing(0, 3));
        DUE.is("14 another what", -1, x.standing(0, -1));
        DUE.is("14 no such", -1, x.standing(3, 0));
        DUE.is("21 who waits has no bound", -1, x.bound(2));
        DUE.is("21 behind one that is lent a rank", -1, x.bound(1));
        DUE.is("21 the holder is next", 1, x.bound(0));
        x.run(1);
        DUE.is("10 the holder", 0, x.chosen(0));
        DUE.is("17 by class", 0, x.row(x.count(4) - 1, 3));
        DUE.is("17 by key", 21, x.row(x.count(4) - 1, 4));
        x.run(3);
        DUE.is("15 given and held", 2, x.holder(0));
        DUE.is("11 it got it and is ready", 0, x.about(2, 6));
        DUE.is("11 waits for none", -1, x.about(2, 7));
        DUE.is("14 the giver has its own", 1, x.standing(0, 0));
        DUE.is("22 got from another", 1, x.trace(10));
        DUE.is("11 the giver went on", 8, x.about(0, 4));
        x.run(2);
        DUE.is("15 left at its end", -1, x.holder(0));
        DUE.is("19 check", -1, x.check());
    }

    /** A chain: 2 waits for 1, who waits for 0; what 2 has goes to 0. */
    private static void lendingFar() {
        FairWheel x = new FairWheel();
        x.lock(0);
        x.lock(1);
        Due.write(x, 0, 2, 0, 1, 90, 0);
        Due.write(x, 1, 2, 1, 2, 0, 0);
        Due.write(x, 2, 2, 1, 0);
        Due.write(x, 3, 2, 0, 0);
        x.task(0, 0, 1);
        x.run(1);
        x.task(0, 1, 1000);
        x.run(1);
        x.run(1);
        x.task(2, 2, 1);
        x.deadline(2, 50, 3);
        x.run(1);
        x.task(2, 3, 1);
        x.deadline(3, 48, 3);
        x.run(1);
        DUE.is("15 lock 0", 0, x.holder(0));
        DUE.is("15 lock 1", 1, x.holder(1));
        DUE.is("14 of the far holder", 3, x.standing(0, 2));
        DUE.is("14 of the near holder", 2, x.standing(1, 2));
        DUE.is("14 its key", 53, x.standing(1, 1));
        DUE.is("14 its class", 0, x.standing(1, 0));
        x.share(0, 1000);
        x.run(100);
        DUE.is("22 three got locks", 3, x.trace(10));
        DUE.is("23 all ended", 0, x.count(2));
        DUE.is("19 check", -1, x.check());
    }

    /** The lock goes to who stands foremost by what it was lent, not by its own rank. */
    private static void leftLocks() {
        FairWheel x = new FairWheel();
        for (int l = 0; l < 3; l++) {
            x.lock(l);
        }
        Due.write(x, 0, 2, 1, 2, 0, 6, 10, 0);
        Due.write(x, 1, 2, 0, 1, 2, 0);
        Due.write(x, 2, 2, 2, 2, 0, 1, 2, 0);
        Due.write(x, 3, 6, 2, 2, 2, 0);
        Due.write(x, 4, 2, 1, 1, 1, 0);
        x.processors(4);
        x.task(0, 0, 1);
        x.task(0, 1, 1000);
        x.task(3, 2, 1);
        x.task(1, 3, 1);
        x.deadline(3, 100, 50);
        x.run(1);
        x.task(4, 4, 1);
        x.run(4);
        DUE.is("11 waits for 0", 0, x.about(1, 7));
        DUE.is("11 waits for 0 too", 0, x.about(2, 7));
        DUE.is("11 waits for 2", 2, x.about(3, 7));
        DUE.is("11 waits for 1", 1, x.about(4, 7));
        DUE.is("12 its own virtual is behind", true, x.virtual(2) > x.virtual(1));
        DUE.is("14 of the sleeper", 3, x.standing(0, 2));
        x.run(6);
        DUE.is("11 ended", 4, x.about(0, 6));
        DUE.is("15 lock 0 by the rank lent", 2, x.holder(0));
        DUE.is("15 lock 1", 4, x.holder(1));
        DUE.is("22 Idle.takes", 1, x.trace(11));
        DUE.is("22 Lends.takes", 1, x.trace(10));
        x.run(30);
        DUE.is("22 Lends.takes", 3, x.trace(10));
        DUE.is("23 all ended", 0, x.count(2));
        for (int l = 0; l < 3; l++) {
            DUE.is("15 free at the end", -1, x.holder(l));
        }
        DUE.is("15 not there", -2, x.holder(-1));
        DUE.is("15 not there", -2, x.holder(100));
        DUE.is("19 check", -1, x.check());
    }

    /** Who begins to wait in the very tick in which the lock goes on stands there by what it has paid by then. */
    private static void lateStanding(int givesOrEnds) {
        FairWheel x = new FairWheel();
        x.lock(0);
        Due.write(x, 0, 2, 0, 1, 1, givesOrEnds, 0, 1, 9, 0);
        Due.write(x, 1, 2, 0, 1, 9, 0);
        x.task(0, 0, 10);
        x.task(0, 1, 2);
        x.task(0, 1, 1);
        x.processors(2);
        x.run(1);
        DUE.is("11 one waits", 0, x.about(1, 7));
        DUE.is("14 it stands by what it paid", 500, x.standing(1, 1));
        x.run(1);
        DUE.is("10 the other goes first", 2, x.chosen(0));
        DUE.is("10 then the holder", 0, x.chosen(1));
        DUE.is("11 the other waits", 0, x.about(2, 7));
        DUE.is("12 it paid", 1000, x.virtual(2));
        DUE.is("15 the lock went to who stands foremost then", 1, x.holder(0));
    }

    private static void claims() {
        int[] left = {-1, 1, 2, -1, -1};
        for (int kind = 0; kind < 5; kind++) {
            FairWheel x = with(kind, 1, 10, 0, 10, 1, 10, 2, 0);
            x.run(1);
            DUE.is("11 what is left of kind " + kind, left[kind], x.about(0, 13));
        }
        FairWheel x = with(1, 1, 10, 1, 10, 1, 10, 1, 1, 9, 0);
        x.deadline(0, 50, 1);
        x.run(1);
        DUE.is("11 it may be above the budget", 3, x.about(0, 13));
        DUE.is("11 the budget stays", 1, x.about(0, 11));
        DUE.is("12 and spends it", 0, x.virtual(0));
        x.run(3);
        DUE.is("12 and spends it", 0, x.virtual(0));
        x.run(1);
        DUE.is("12 then it pays", 1000, x.virtual(0));
    }

    /** 0 takes 0 and wants 1; 1 takes 1 and wants 2; 2 takes 2 and wants 0. */
    private static void rings() {
        FairWheel x = new FairWheel();
        for (int i = 0; i < 3; i++) {
            x.lock(i);
            Due.write(x, i, 2, i, 6, 1 + i, 2, (i + 1) % 3, 0);
            x.task(0, i, 1);
        }
        x.processors(3);
        x.run(3);
        DUE.is("23 none yet", 0, x.count(6));
        DUE.is("16 none yet", -1, x.ringed(0));
        x.run(1);
        DUE.is("11 fault 12", 12, x.about(2, 9));
        DUE.is("11 its place stays", 4, x.about(2, 5));
        DUE.is("23 one ring", 1, x.count(6));
        int[] ring = {2, 0, 1, -1};
        for (int k = 0; k < 4; k++) {
            DUE.is("16 ringed " + k, ring[k], x.ringed(k));
        }
        DUE.is("16 ringed -1", -1, x.ringed(-1));
        DUE.is("15 its lock is left", 1, x.holder(2));
        DUE.is("22 it did not wait", 5, x.trace(3));
        x.run(9);
        DUE.is("11 the others end", 8, x.about(0, 6) + x.about(1, 6));
        DUE.is("16 the latest stays", 2, x.ringed(0));
        DUE.is("19 check", -1, x.check());
    }

    private static void bodies() {
        int[][] due = {
            {1, 0, 0, 1, 0, 0, 1, 0, 0, 0, 0, 0},
            {1, 0, 0, 1, 0, 0, 0, 1, 0, 0, 0, 0},
            {1, 1, 0, 1, 0, 1, 0, 1, 0, 0, 0, 0},
            {1, 0, 0, 1, 1, 0, 1, 0, 0, 0, 0, 0},
            {2, 0, 1, 1, 1, 0, 1, 0, 0, 0, 0, 0},
        };
        for (int kind = 0; kind < 5; kind++) {
            FairWheel x = with(kind, 1, 6, 9, 0);
            FairWheel y = with(kind, 1, 4, 9, 0);
            x.run(1);
            y.run(1);
            x.check();
            for (int body = 0; body < 12; body++) {
                DUE.is("22 kind " + kind + " body " + body, due[kind][body], x.trace(body));
                DUE.is("22 kind " + kind + " body " + body, due[kind][body], y.trace(body));
            }
            DUE.is("22 no such", -1, x.trace(12));
            DUE.is("22 no such", -1, x.trace(-1));
        }
        FairWheel d = with(1, 1, 6, 9, 0);
        d.deadline(0, 1, 1);
        d.run(1);
        DUE.is("22 it spent and did not pay", 0, d.trace(0));
        DUE.is("22 it was asked", 1, d.trace(7));
        FairWheel s = with(2, 1, 6, 9, 0);
        s.deadline(0, 1, 1);
        s.run(1);
        DUE.is("22 a Server pays besides", 1, s.trace(0));
        DUE.is("22 a Server pays besides", 1, s.trace(1));
    }

    private static void wrongQuestions() {
        FairWheel x = with(0, 1, 1, 9, 0);
        x.run(1);
        for (int wrong : new int[] {-1, 15, Integer.MIN_VALUE, Integer.MAX_VALUE}) {
            DUE.is("11 what " + wrong, -1, x.about(0, wrong));
            DUE.is("11 task " + wrong, -1, x.about(wrong, 0));
            DUE.is("10 processor " + wrong, -1, x.chosen(wrong));
            DUE.is("12 task " + wrong, -1, x.virtual(wrong));
            DUE.is("13 task " + wrong, 0, x.small(wrong, 0));
            DUE.is("13 short " + wrong, 0, x.small(0, wrong));
            DUE.is("14 task " + wrong, -1, x.standing(wrong, 0));
            DUE.is("14 what " + wrong, -1, x.standing(0, wrong));
            DUE.is("16 ringed " + wrong, -1, x.ringed(wrong));
            DUE.is("17 row " + wrong, -1, x.row(wrong, 0));
            DUE.is("17 what " + wrong, -1, x.row(0, wrong));
            DUE.is("21 task " + wrong, -1, x.bound(wrong));
            DUE.is("22 body " + wrong, -1, x.trace(wrong));
            DUE.is("23 what " + wrong, -1, x.count(wrong));
        }
        DUE.is("17 what 5", -1, x.row(0, 5));
        DUE.is("23 what 8", -1, x.count(8));
    }

    private TicksTest() {
    }
}
