/** Each sentence of the document's terms that names a limit, a first value or an order, from both its sides. */
public final class TermsEdgesTest {
    private static final Due DUE = new Due("TermsEdgesTest");

    public static void main(String[] args) {
        tasksAreNumbered();
        kinds();
        programNumbers();
        shares();
        rest();
        atFirst();
        endedForEver();
        periods();
        budgets();
        deadlinesAtFirst();
        newVirtual();
        newVirtualWithoutAny();
        newRest();
        newShareCutsRest();
        locksWhenTold();
        bellsAlways();
        classZero();
        classOne();
        aheadByClass();
        aheadByKey();
        aheadByNumber();
        standingOfItself();
        standingOfWaiters();
        standingAndSoOn();
        standingOfAHundred();
        noTwoHaveOne();
        DUE.end();
    }

    private static void tasksAreNumbered() {
        DUE.sentence("TASKS are numbered from 0 on, 200 at most");
        FairWheel x = new FairWheel();
        for (int t = 0; t < 200; t++) {
            DUE.is("the next number", t, x.task(t % 5, t % 32, 1 + t * 5));
        }
        DUE.is("the last one is there", 199 % 5, x.about(199, 0));
        DUE.is("its share", 996, x.about(199, 2));
        DUE.is("none is behind it", -1, x.about(200, 0));
        DUE.refused("one more", -1, 2, x, x.task(0, 0, 1));
        DUE.is("200 are there", 200, x.count(1));
        DUE.is("none came", -1, x.about(200, 0));
    }

    private static void kinds() {
        DUE.sentence("a KIND (0 Fair, 1 Deadline, 2 Server, 3 Batch, 4 Idle)");
        FairWheel x = new FairWheel();
        DUE.refused("below", -1, 1, x, x.task(-1, 0, 1));
        DUE.refused("above", -1, 1, x, x.task(5, 0, 1));
        for (int kind = 0; kind < 5; kind++) {
            DUE.refused("kind " + kind, kind, 0, x, x.task(kind, 0, 1));
            DUE.is("kind " + kind, kind, x.about(kind, 0));
            boolean dated = kind == 1 || kind == 2;
            DUE.is("a period", dated ? 100 : -1, x.about(kind, 10));
        }
    }

    private static void programNumbers() {
        DUE.sentence("a PROGRAM's number (0 to 31)");
        FairWheel x = new FairWheel();
        DUE.refused("task, below", -1, 1, x, x.task(0, -1, 1));
        DUE.refused("task, above", -1, 1, x, x.task(0, 32, 1));
        DUE.refused("task, first", 0, 0, x, x.task(0, 0, 1));
        DUE.refused("task, last", 1, 0, x, x.task(0, 31, 1));
        DUE.is("first", 0, x.about(0, 1));
        DUE.is("last", 31, x.about(1, 1));
        DUE.refused("program, below", -1, 1, x, x.program(-1, 0, 1));
        DUE.refused("program, above", -1, 1, x, x.program(32, 0, 1));
        DUE.refused("program, first", 1, 0, x, x.program(0, 0, 1));
        DUE.refused("program, last", 1, 0, x, x.program(31, 0, 1));
        x.run(2);
        DUE.is("both end without a fault", 0, x.about(0, 9) + x.about(1, 9));
        DUE.is("both end", 0, x.count(2));
    }

    private static void shares() {
        DUE.sentence("a SHARE (1 to 1,000)");
        FairWheel x = new FairWheel();
        DUE.refused("task, below", -1, 1, x, x.task(0, 0, 0));
        DUE.refused("task, above", -1, 1, x, x.task(0, 0, 1001));
        DUE.refused("task, least", 0, 0, x, x.task(0, 0, 1));
        DUE.refused("task, most", 1, 0, x, x.task(0, 0, 1000));
        DUE.is("least", 1, x.about(0, 2));
        DUE.is("most", 1000, x.about(1, 2));
        DUE.refused("share, below", -1, 1, x, x.share(0, 0));
        DUE.refused("share, above", -1, 1, x, x.share(0, 1001));
        DUE.refused("share, most", 1, 0, x, x.share(0, 1000));
        DUE.refused("share, least", 1000, 0, x, x.share(0, 1));
    }

    /** 999 leaves one more each time, up to 998; then 1,998 is twice 999. */
    private static void rest() {
        DUE.sentence("VIRTUAL time and a REST (0 to SHARE - 1)");
        FairWheel x = Due.one(0, 999, Due.work(1016, 0));
        x.run(998);
        DUE.is("the greatest rest", 998, x.about(0, 3));
        DUE.is("its virtual", 998, x.virtual(0));
        x.run(1);
        DUE.is("the least rest", 0, x.about(0, 3));
        DUE.is("two at once", 1000, x.virtual(0));
        FairWheel least = Due.one(0, 1, 1, 9, 0);
        least.run(3);
        DUE.is("a share of 1 leaves none", 0, least.about(0, 3));
        DUE.is("a share of 1", 3000, least.virtual(0));
    }

    private static void atFirst() {
        DUE.sentence("WORK that is left (0 at first), a PLACE in its PROGRAM (0 at first), a row of SHORT numbers"
                + " (none at first), and is READY (at first)");
        FairWheel x = new FairWheel();
        Due.write(x, 0, 8, 5, 1, 100, 0);
        x.task(0, 0, 1);
        x.run(5);
        for (int kind = 0; kind < 5; kind++) {
            int t = x.task(kind, 0, 7);
            int[] due = {kind, 0, 7, 0, 0, 0, 0, -1, -1, 0};
            for (int what = 0; what < due.length; what++) {
                DUE.is("kind " + kind + " about " + what, due[what], x.about(t, what));
            }
            DUE.is("kind " + kind + " no row", -1, x.about(t, 14));
        }
        DUE.is("all are ready", 6, x.count(3));
    }

    private static void endedForEver() {
        DUE.sentence("has ENDED (for ever)");
        FairWheel x = new FairWheel();
        x.lock(0);
        Due.write(x, 0, 2, 0, 6, 3, 4, 1, 0);
        x.task(2, 0, 10);
        x.deadline(0, 7, 3);
        x.run(4);
        x.ring(1);
        x.run(1);
        DUE.is("it ended", 4, x.about(0, 6));
        int[] was = new int[15];
        for (int what = 0; what < 15; what++) {
            was[what] = x.about(0, what);
        }
        for (int b = 0; b < 16; b++) {
            DUE.is("bell " + b, 0, x.ring(b));
        }
        x.share(0, 5);
        x.deadline(0, 5, 5);
        x.task(0, 0, 1);
        x.run(100);
        for (int what = 0; what < 15; what++) {
            DUE.is("about " + what + " stays", was[what], x.about(0, what));
        }
        DUE.is("chosen for the last time", 0, x.row(2, 2));
        for (int k = 3; k < x.count(4); k++) {
            DUE.is("never chosen again, row " + k, 1, x.row(k, 2));
        }
        DUE.is("one is alive", 1, x.count(2));
    }

    private static void periods() {
        DUE.sentence("a PERIOD (1 to 1,000; 100 at first)");
        for (int kind = 1; kind <= 2; kind++) {
            FairWheel x = new FairWheel();
            x.task(kind, 0, 1);
            DUE.is("at first", 100, x.about(0, 10));
            DUE.refused("below", false, 1, x, x.deadline(0, 0, 0));
            DUE.refused("above", false, 1, x, x.deadline(0, 1001, 0));
            DUE.is("it stays", 100, x.about(0, 10));
            DUE.refused("least", true, 0, x, x.deadline(0, 1, 0));
            DUE.is("least", 1, x.about(0, 10));
            DUE.refused("most", true, 0, x, x.deadline(0, 1000, 0));
            DUE.is("most", 1000, x.about(0, 10));
        }
    }

    private static void budgets() {
        DUE.sentence("a BUDGET (0 to PERIOD; 0 at first)");
        for (int kind = 1; kind <= 2; kind++) {
            FairWheel x = new FairWheel();
            x.task(kind, 0, 1);
            DUE.is("at first", 0, x.about(0, 11));
            for (int period : new int[] {1, 2, 999, 1000}) {
                DUE.refused("below", false, 1, x, x.deadline(0, period, -1));
                DUE.refused("above", false, 1, x, x.deadline(0, period, period + 1));
                DUE.refused("least", true, 0, x, x.deadline(0, period, 0));
                DUE.is("least", 0, x.about(0, 11));
                DUE.refused("most", true, 0, x, x.deadline(0, period, period));
                DUE.is("most", period, x.about(0, 11));
            }
        }
    }

    private static void deadlinesAtFirst() {
        DUE.sentence("a DEADLINE (the clock and PERIOD) and what is LEFT (BUDGET)");
        FairWheel x = new FairWheel();
        x.task(1, 0, 1);
        x.task(2, 0, 1);
        DUE.is("at the clock 0", 100, x.about(0, 12));
        DUE.is("at the clock 0", 100, x.about(1, 12));
        DUE.is("nothing left", 0, x.about(0, 13) + x.about(1, 13));
        x.run(5);
        DUE.is("at the clock 5", 2, x.task(2, 0, 1));
        DUE.is("at the clock 5", 105, x.about(2, 12));
        x.deadline(2, 40, 13);
        DUE.is("told", 45, x.about(2, 12));
        DUE.is("left", 13, x.about(2, 13));
        for (int kind : new int[] {0, 3, 4}) {
            int t = x.task(kind, 0, 1);
            for (int what = 10; what <= 13; what++) {
                DUE.is("none for kind " + kind, -1, x.about(t, what));
            }
        }
    }

    private static void newVirtual() {
        DUE.sentence("A new TASK's VIRTUAL is the least one of those that have not ENDED");
        FairWheel x = new FairWheel();
        Due.write(x, 0, 0);
        Due.write(x, 1, 1, 100, 0);
        Due.write(x, 2, 6, 100, 0);
        Due.write(x, 3, 4, 0, 0);
        x.processors(4);
        x.task(0, 0, 1000);
        x.task(0, 1, 10);
        x.task(0, 2, 25);
        x.task(0, 3, 20);
        x.run(1);
        DUE.is("the one that ended has less", 1, x.virtual(0));
        DUE.is("ready", 4, x.task(0, 1, 1));
        DUE.is("the sleeper has the least", 40, x.virtual(4));
        x.run(3);
        DUE.is("still", 5, x.task(4, 1, 1));
        DUE.is("the sleeper's", 40, x.virtual(5));
        FairWheel y = new FairWheel();
        Due.write(y, 0, 4, 0, 0);
        Due.write(y, 1, 1, 100, 0);
        y.processors(2);
        y.task(0, 0, 500);
        y.task(0, 1, 250);
        y.run(1);
        y.task(0, 1, 1);
        DUE.is("one that waits has the least", 2, y.virtual(2));
        FairWheel z = Due.one(0, 1, 1, 100, 0);
        z.run(1);
        z.task(0, 0, 4);
        DUE.is("of one", 1000, z.virtual(1));
        z.run(2);
        DUE.is("the lower number has more", 2000, z.virtual(0));
        z.task(0, 0, 1);
        DUE.is("of two, the higher number's", 1250, z.virtual(2));
        FairWheel born = new FairWheel();
        Due.write(born, 0, 6, 100, 0);
        Due.write(born, 1, 1, 1, 7, 0, 1, 9, 0);
        born.task(0, 0, 1000);
        born.task(0, 1, 10);
        born.processors(2);
        born.run(2);
        DUE.is("whom it comes from has more", 200, born.virtual(1));
        DUE.is("one that came by byte 7", 1, born.virtual(2));
    }

    private static void newVirtualWithoutAny() {
        DUE.sentence("(0 without any)");
        FairWheel x = Due.one(0, 1, 0);
        DUE.is("the first", 0, x.virtual(0));
        x.run(1);
        DUE.is("it paid and ended", 1000, x.virtual(0));
        x.task(0, 0, 1);
        DUE.is("all others have ended", 0, x.virtual(1));
        x.task(0, 0, 1);
        DUE.is("one has not", 0, x.virtual(2));
    }

    private static void newRest() {
        DUE.sentence("(0 without any), its REST 0");
        FairWheel x = Due.one(0, 300, 7, 0, 1, 100, 0);
        x.run(1);
        DUE.is("the other one has a rest", 100, x.about(0, 3));
        DUE.is("one that came by byte 7", 0, x.about(1, 3));
        x.task(0, 0, 300);
        DUE.is("one that was told", 0, x.about(2, 3));
    }

    private static void newShareCutsRest() {
        DUE.sentence("A new SHARE cuts REST to SHARE - 1 at most");
        int[][] shareAndRest = {{1000, 300}, {302, 300}, {301, 300}, {300, 299}, {299, 298}, {2, 1}, {1, 0}};
        for (int[] due : shareAndRest) {
            FairWheel x = Due.one(0, 700, 1, 100, 0);
            x.run(1);
            DUE.is("before", 300, x.about(0, 3));
            DUE.is("what it was", 700, x.share(0, due[0]));
            DUE.is("by " + due[0], due[1], x.about(0, 3));
            DUE.is("virtual stays", 1, x.virtual(0));
            x.run(1);
            DUE.is("it pays with it", 1 + (1000 + due[1]) / due[0], x.virtual(0));
            DUE.is("it pays with it", (1000 + due[1]) % due[0], x.about(0, 3));
        }
        FairWheel x = Due.one(0, 700, 1, 100, 0);
        x.share(0, 5);
        DUE.is("a rest of 0 stays", 0, x.about(0, 3));
    }

    private static void locksWhenTold() {
        DUE.sentence("LOCKS 0 to 99 are there when told");
        FairWheel x = new FairWheel();
        DUE.refused("below", false, 1, x, x.lock(-1));
        DUE.refused("above", false, 1, x, x.lock(100));
        for (int l = 0; l < 100; l++) {
            DUE.is("not there", -2, x.holder(l));
            DUE.is("told", true, x.lock(l));
            DUE.is("there", -1, x.holder(l));
        }
        DUE.is("below", -2, x.holder(-1));
        DUE.is("above", -2, x.holder(100));
        Due.write(x, 0, 2, 0, 2, 99, 6, 1, 2, 100);
        x.task(0, 0, 1);
        x.run(1);
        DUE.is("the first can be taken", 0, x.holder(0));
        DUE.is("the last can be taken", 0, x.holder(99));
        x.run(1);
        DUE.is("none behind it", 7, x.about(0, 9));
    }

    private static void bellsAlways() {
        DUE.sentence("BELLS 0 to 15 always");
        FairWheel x = new FairWheel();
        x.processors(4);
        for (int b = -1; b <= 16; b++) {
            Due.write(x, b + 1, 4, b, 0);
            x.task(0, b + 1, 1);
        }
        x.run(5);
        for (int b = 0; b < 16; b++) {
            DUE.is("one waits for bell " + b, b, x.about(b + 1, 7));
            DUE.is("bell " + b, 1, x.ring(b));
            DUE.is("ready by it", 0, x.about(b + 1, 6));
        }
        DUE.is("none below", 10, x.about(0, 9));
        DUE.is("none above", 10, x.about(17, 9));
        DUE.refused("none below", -1, 1, x, x.ring(-1));
        DUE.refused("none above", -1, 1, x, x.ring(16));
    }

    private static void classZero() {
        DUE.sentence("CLASS 0 with its DEADLINE, if it is a Deadline or Server one with something LEFT");
        for (int kind = 1; kind <= 2; kind++) {
            FairWheel x = Due.one(kind, 10, 1, 100, 0);
            x.run(2);
            x.deadline(0, 30, 1);
            DUE.is("one left", 0, x.standing(0, 0));
            DUE.is("the deadline", 32, x.standing(0, 1));
            DUE.is("its number", 0, x.standing(0, 2));
            x.run(1);
            DUE.is("row's class", 0, x.row(2, 3));
            DUE.is("row's key", 32, x.row(2, 4));
            DUE.is("none left", 1, x.standing(0, 0));
            x.run(1);
            DUE.is("row's class", 1, x.row(3, 3));
            x.deadline(0, 1000, 1000);
            DUE.is("all left", 0, x.standing(0, 0));
            DUE.is("the deadline", 1004, x.standing(0, 1));
        }
    }

    private static void classOne() {
        DUE.sentence("else CLASS 1 with its VIRTUAL");
        for (int kind = 0; kind < 5; kind++) {
            FairWheel x = Due.one(kind, 10, 1, 100, 0);
            x.deadline(0, 30, 0);
            DUE.is("class of kind " + kind, 1, x.standing(0, 0));
            DUE.is("key of kind " + kind, 0, x.standing(0, 1));
            x.run(3);
            DUE.is("class of kind " + kind, 1, x.standing(0, 0));
            DUE.is("key of kind " + kind, kind == 4 ? 600 : 300, x.standing(0, 1));
            DUE.is("row's class", 1, x.row(2, 3));
            DUE.is("row's key", kind == 4 ? 400 : 200, x.row(2, 4));
        }
    }

    private static void aheadByClass() {
        DUE.sentence("One is ahead of another by the lower CLASS");
        for (int kind = 1; kind <= 2; kind++) {
            FairWheel x = Due.one(0, 1, 1, 100, 0);
            x.task(kind, 0, 1);
            x.deadline(1, 1000, 1);
            x.run(1);
            DUE.is("a key of 1,000 in class 0 is ahead of 0 in class 1", 1, x.chosen(0));
            x.run(1);
            DUE.is("then the other", 0, x.chosen(0));
        }
    }

    private static void aheadByKey() {
        DUE.sentence("then the lower DEADLINE or VIRTUAL (KEY)");
        FairWheel x = Due.one(1, 1, 1, 100, 0);
        x.task(2, 0, 1);
        x.deadline(0, 51, 5);
        x.deadline(1, 50, 5);
        x.run(1);
        DUE.is("the deadline that is one lower", 1, x.chosen(0));
        FairWheel y = Due.one(0, 500, 1, 100, 0);
        y.task(0, 0, 1000);
        y.run(1);
        DUE.is("equal", 0, y.chosen(0));
        y.run(1);
        DUE.is("the lower virtual", 1, y.chosen(0));
        y.run(1);
        DUE.is("the virtual that is one lower", 1, y.chosen(0));
        DUE.is("now equal", 0, y.virtual(0) - y.virtual(1));
    }

    private static void aheadByNumber() {
        DUE.sentence("then the lower number");
        FairWheel x = new FairWheel();
        Due.write(x, 0, 1, 100, 0);
        for (int t = 0; t < 200; t++) {
            x.task(t % 2 * 4, 0, 1);
        }
        x.processors(4);
        x.run(50);
        for (int k = 0; k < 200; k += 9) {
            DUE.is("by numbers, row " + k, k, x.row(k, 2));
        }
        DUE.is("the last", 199, x.row(199, 2));
        FairWheel y = new FairWheel();
        Due.write(y, 0, 1, 100, 0);
        for (int t = 0; t < 4; t++) {
            y.task(1 + t % 2, 0, 1);
            y.deadline(t, 20, 1);
        }
        y.run(4);
        for (int k = 0; k < 4; k++) {
            DUE.is("of class 0", k, y.row(k, 2));
        }
    }

    private static void standingOfItself() {
        DUE.sentence("Its STANDING is the RANK (with the number) of the foremost of itself");
        FairWheel x = new FairWheel();
        x.lock(0);
        Due.write(x, 0, 2, 0, 1, 100, 0);
        x.task(0, 0, 1000);
        x.task(0, 0, 500);
        x.processors(2);
        DUE.is("who holds nothing", 0, x.standing(0, 2));
        DUE.is("who holds nothing", 1, x.standing(1, 2));
        x.run(1);
        DUE.is("the other waits", 1, x.about(1, 6));
        DUE.is("its own is ahead of who waits", 0, x.standing(0, 2));
        DUE.is("its own key", 1, x.standing(0, 1));
        x.run(1);
        DUE.is("equal keys, the lower number", 0, x.standing(0, 2));
        x.run(1);
        DUE.is("now who waits is ahead", 1, x.standing(0, 2));
        DUE.is("by key", 2, x.standing(0, 1));
        DUE.is("who waits lends and keeps", 1, x.standing(1, 2));
    }

    private static void standingOfWaiters() {
        DUE.sentence("those who wait for locks that it holds");
        FairWheel x = new FairWheel();
        x.lock(0);
        x.lock(99);
        Due.write(x, 0, 2, 0, 2, 99, 1, 100, 0);
        Due.write(x, 1, 2, 0, 0);
        Due.write(x, 2, 2, 99, 0);
        Due.write(x, 3, 4, 0, 0);
        x.task(0, 0, 1);
        x.run(1);
        x.processors(4);
        x.task(1, 1, 1);
        x.task(1, 2, 1);
        x.task(1, 3, 1);
        x.deadline(1, 90, 9);
        x.deadline(2, 80, 9);
        x.deadline(3, 70, 9);
        x.run(1);
        DUE.is("the foremost of both locks", 2, x.standing(0, 2));
        DUE.is("class", 0, x.standing(0, 0));
        DUE.is("key", 81, x.standing(0, 1));
        x.deadline(1, 60, 9);
        DUE.is("now the other lock's", 1, x.standing(0, 2));
        x.deadline(1, 60, 0);
        x.deadline(2, 60, 0);
        DUE.is("one that waits for a bell has the foremost", 0, x.standing(3, 0));
        DUE.is("but lends nothing", 1, x.standing(0, 0));
    }

    /** 0 holds lock 0; 1 holds 1 and waits for 0; 2 holds 2 and waits for 1; 3 waits for 2. */
    private static void standingAndSoOn() {
        DUE.sentence("those who wait for locks that these hold, and so on");
        FairWheel x = new FairWheel();
        for (int l = 0; l < 3; l++) {
            x.lock(l);
        }
        Due.write(x, 0, 2, 0, 6, 100, 0);
        Due.write(x, 1, 2, 1, 2, 0, 0);
        Due.write(x, 2, 2, 2, 2, 1, 0);
        Due.write(x, 3, 2, 2, 0);
        x.processors(4);
        for (int t = 0; t < 4; t++) {
            x.task(2, t, 1);
        }
        x.run(1);
        for (int t = 0; t < 4; t++) {
            DUE.is("state of " + t, t == 0 ? 3 : 1, x.about(t, 6));
            DUE.is("without anything left, the lower number", t, x.standing(t, 2));
        }
        x.deadline(3, 50, 5);
        for (int t = 0; t < 4; t++) {
            DUE.is("from the end of the chain", 3, x.standing(t, 2));
            DUE.is("its key", 51, x.standing(t, 1));
            DUE.is("its class", 0, x.standing(t, 0));
        }
        x.deadline(1, 50, 5);
        int[] due = {1, 1, 3, 3};
        for (int t = 0; t < 4; t++) {
            DUE.is("from the middle, by number", due[t], x.standing(t, 2));
        }
        x.deadline(2, 49, 5);
        int[] then = {2, 2, 2, 3};
        for (int t = 0; t < 4; t++) {
            DUE.is("by key", then[t], x.standing(t, 2));
        }
    }

    /** As many as there are locks, one behind another: each walks on to the last lock that is free. */
    private static FairWheel hundred() {
        FairWheel x = new FairWheel();
        int[] walk = new int[2 + 99 * 4 + 5];
        walk[0] = 2;
        for (int l = 0; l < 100; l++) {
            x.lock(l);
        }
        for (int l = 1; l < 100; l++) {
            walk[4 * l - 2] = 2;
            walk[4 * l - 1] = l;
            walk[4 * l] = 3;
            walk[4 * l + 1] = l - 1;
        }
        walk[398] = 4;
        walk[400] = 2;
        Due.write(x, 0, walk);
        for (int t = 0; t < 100; t++) {
            x.task(1, 0, 1);
        }
        x.processors(4);
        x.run(25);
        return x;
    }

    private static void standingOfAHundred() {
        DUE.sentence("and so on. (So no two");
        FairWheel x = hundred();
        for (int t = 0; t < 100; t += 11) {
            DUE.is("who holds lock " + (99 - t), t, x.holder(99 - t));
        }
        DUE.is("the first waits for the bell", 2, x.about(0, 6));
        DUE.is("the last waits for lock 1", 1, x.about(99, 7));
        x.deadline(99, 1000, 1);
        for (int t = 0; t < 100; t += 9) {
            DUE.is("standing of " + t, 99, x.standing(t, 2));
        }
        x.deadline(50, 1000, 1);
        DUE.is("behind the middle", 99, x.standing(51, 2));
        DUE.is("from the middle on", 50, x.standing(50, 2));
        DUE.is("to the first", 50, x.standing(0, 2));
        x.ring(0);
        x.run(1);
        DUE.is("it took lock 0: a ring", 12, x.about(0, 9));
        for (int k = 0; k < 100; k += 9) {
            int due = k == 0 ? 0 : 100 - k;
            DUE.is("ringed " + k, due, x.ringed(k));
        }
        DUE.is("a hundred are in it", -1, x.ringed(100));
        DUE.is("lock 99 goes on", 1, x.holder(99));
        DUE.is("check", -1, x.check());
    }

    private static void noTwoHaveOne() {
        DUE.sentence("(So no two have one STANDING, but who waits and the holder.)");
        FairWheel x = new FairWheel();
        x.lock(0);
        Due.write(x, 0, 2, 0, 1, 100, 0);
        x.task(2, 0, 1);
        x.task(2, 0, 1);
        x.task(2, 0, 1);
        x.processors(4);
        x.run(1);
        for (int t = 0; t < 3; t++) {
            x.deadline(t, 20, t);
        }
        DUE.is("the holder has that of who waits", 1, x.standing(0, 2));
        DUE.is("who waits has it too", 1, x.standing(1, 2));
        DUE.is("the other has its own", 2, x.standing(2, 2));
        x.deadline(0, 20, 1);
        DUE.is("each has its own", 0, x.standing(0, 2));
    }

    private TermsEdgesTest() {
    }
}
