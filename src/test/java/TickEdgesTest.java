/** Each sentence on a TICK, its ROWS and payments, and the BODIES, from both sides of what it names. */
public final class TickEdgesTest {
    private static final Due DUE = new Due("TickEdgesTest");

    public static void main(String[] args) {
        clockAtFirst();
        sleepsUntil();
        refilledAt();
        refilledToBudget();
        notRefilledWhenEnded();
        oneAtFirst();
        eachChoosesAnother();
        noneIfNone();
        byProcessorsNumber();
        paysFirst();
        tillOneEndsTheTurn();
        oneMore();
        fiveNumbers();
        rowsKept();
        fewerThanFourPlaces();
        quietTicksNeedPlacesToo();
        spendsOne();
        deadlineThatSpent();
        othersPayOnce();
        idlePaysTwice();
        cut();
        serverPaysBesides();
        spendsBodies();
        paysBodies();
        waitsBodies();
        refilledBody();
        earlyNeverRuns();
        takesBodies();
        DUE.end();
    }

    private static void clockAtFirst() {
        DUE.sentence("the clock being c (0 at first)");
        FairWheel x = Due.one(0, 1, 8, 1, 9, 0, 1, 5);
        DUE.is("count", 0, x.count(0));
        x.run(1);
        DUE.is("the first row", 0, x.row(0, 0));
        DUE.is("the first short number", 0, x.small(0, 0));
    }

    private static void sleepsUntil() {
        DUE.sentence("one that SLEEPS until c is READY");
        for (int n : new int[] {1, 2, 126, 127}) {
            FairWheel x = Due.one(0, 1, 6, n, 0);
            x.run(1);
            DUE.is("until", n, x.about(0, 8));
            x.run(n - 1);
            DUE.is("the clock", n, x.count(0));
            DUE.is("it sleeps till the tick", 3, x.about(0, 6));
            DUE.is("one row", 1, x.count(4));
            x.run(1);
            DUE.is("chosen in that tick", 0, x.chosen(0));
            DUE.is("chosen in that tick", n, x.row(1, 0));
            DUE.is("it sleeps no more", -1, x.about(0, 8));
        }
        FairWheel busy = Due.one(0, 1, 6, 2, 0);
        Due.write(busy, 1, 1, 9, 0);
        busy.task(0, 1, 1000);
        busy.run(2);
        DUE.is("it sleeps beside another", 3, busy.about(0, 6));
        busy.run(1);
        DUE.is("ready, though another is chosen", 0, busy.about(0, 6));
        DUE.is("the other", 1, busy.chosen(0));
    }

    private static void refilledAt() {
        DUE.sentence("one with a DEADLINE of c is REFILLED: its DEADLINE is a PERIOD later");
        for (int kind = 1; kind <= 2; kind++) {
            for (int period : new int[] {1, 2, 999, 1000}) {
                FairWheel x = Due.one(kind, 1, 4, 0, 0);
                x.deadline(0, period, period);
                x.run(1);
                DUE.is("it spent", period - 1, x.about(0, 13));
                x.run(period - 1);
                DUE.is("the clock is the deadline", x.about(0, 12), x.count(0));
                DUE.is("not till the tick", 0, x.trace(9));
                DUE.is("not till the tick", period - 1, x.about(0, 13));
                x.run(1);
                DUE.is("in that tick", 1, x.trace(9));
                DUE.is("a period later", 2 * period, x.about(0, 12));
                DUE.is("what is left", period, x.about(0, 13));
                x.run(period - 1);
                DUE.is("not till the next", 1, x.trace(9));
                x.run(1);
                DUE.is("then", 3 * period, x.about(0, 12));
            }
        }
        FairWheel y = Due.one(1, 1, 1, 100, 0);
        y.deadline(0, 3, 1);
        y.run(4);
        DUE.is("by virtual, till it is refilled", 1, y.row(2, 3));
        DUE.is("refilled ahead of the choice", 0, y.row(3, 3));
        DUE.is("with the new deadline", 6, y.row(3, 4));
    }

    private static void refilledToBudget() {
        DUE.sentence("LEFT is BUDGET");
        FairWheel x = Due.one(1, 1, 10, 1, 10, 1, 10, 1, 4, 0, 0);
        x.deadline(0, 5, 1);
        x.run(5);
        DUE.is("above the budget", 3, x.about(0, 13));
        x.run(1);
        DUE.is("down to it", 1, x.about(0, 13));
        FairWheel y = Due.one(2, 1, 4, 0, 0);
        y.deadline(0, 5, 5);
        y.run(1);
        DUE.is("below the budget", 4, y.about(0, 13));
        y.run(5);
        DUE.is("up to it", 5, y.about(0, 13));
        FairWheel z = Due.one(2, 1, 10, 1, 4, 0, 0);
        z.deadline(0, 5, 0);
        z.run(1);
        DUE.is("above a budget of 0", 1, z.about(0, 13));
        z.run(5);
        DUE.is("down to 0", 0, z.about(0, 13));
        DUE.is("refilled all the same", 1, z.trace(9));
    }

    private static void notRefilledWhenEnded() {
        DUE.sentence("by numbers, for each TASK that has not ENDED");
        FairWheel x = new FairWheel();
        x.lock(0);
        Due.write(x, 0, 2, 0, 6, 100, 0);
        Due.write(x, 1, 2, 0, 0);
        Due.write(x, 2, 4, 0, 0);
        Due.write(x, 3, 0);
        x.processors(4);
        for (int t = 0; t < 4; t++) {
            x.task(2, t, 1);
            x.deadline(t, 10, 4);
        }
        x.run(11);
        int[] states = {3, 1, 2, 4};
        for (int t = 0; t < 4; t++) {
            DUE.is("state of " + t, states[t], x.about(t, 6));
            DUE.is("deadline of " + t, t < 3 ? 20 : 10, x.about(t, 12));
            DUE.is("left of " + t, t < 3 ? 4 : 3, x.about(t, 13));
        }
        DUE.is("three were refilled", 3, x.trace(9));
    }

    private static void oneAtFirst() {
        DUE.sentence("PROCESSORS (1 at first) choose, by number");
        FairWheel x = Due.one(0, 1, 1, 9, 0);
        x.task(0, 0, 1);
        x.run(1);
        DUE.is("one", 1, x.count(5));
        DUE.is("one row", 1, x.count(4));
        x.processors(2);
        x.run(1);
        DUE.is("the first has the foremost", 1, x.chosen(0));
        DUE.is("the second has the next", 0, x.chosen(1));
        DUE.is("rows by number", 0, x.row(1, 1));
        DUE.is("rows by number", 1, x.row(2, 1));
    }

    private static void eachChoosesAnother() {
        DUE.sentence("each the READY TASK, not chosen yet in this TICK, whose STANDING is foremost");
        for (int n = 1; n <= 4; n++) {
            FairWheel x = Due.one(0, 1, 1, 9, 0);
            for (int t = 1; t < 5; t++) {
                x.task(0, 0, 1);
            }
            x.processors(n);
            x.run(1);
            DUE.is("a row for each", n, x.count(4));
            for (int p = 0; p < 4; p++) {
                DUE.is("of " + n + " processors " + p, p < n ? p : -1, x.chosen(p));
            }
        }
        for (int act : new int[] {4, 6}) {
            FairWheel y = new FairWheel();
            Due.write(y, 0, act, 15, 0);
            Due.write(y, 1, 1, 9, 0);
            y.task(0, 0, 1000);
            y.task(0, 1, 1);
            y.run(5);
            DUE.is("one that is not ready is foremost", true, y.virtual(0) < y.virtual(1));
            DUE.is("but is not chosen", 1, y.chosen(0));
        }
    }

    private static void noneIfNone() {
        DUE.sentence("none if there is none");
        FairWheel x = new FairWheel();
        x.processors(4);
        DUE.is("ticks without any task", 3, x.run(3));
        DUE.is("no row", 0, x.count(4));
        for (int p = 0; p < 4; p++) {
            DUE.is("none", -1, x.chosen(p));
        }
        Due.write(x, 0, 1, 2, 0);
        x.task(0, 0, 1);
        x.task(0, 0, 1);
        x.run(1);
        DUE.is("two rows", 2, x.count(4));
        DUE.is("the second", 1, x.chosen(1));
        DUE.is("none for the third", -1, x.chosen(2));
        x.run(2);
        DUE.is("both end in this tick", 1, x.chosen(1));
        x.run(1);
        DUE.is("none now", -1, x.chosen(0));
        DUE.is("none now", -1, x.chosen(1));
        DUE.is("the clock goes on", 7, x.count(0));
    }

    private static void byProcessorsNumber() {
        DUE.sentence("Those chosen run, by the number of their PROCESSOR");
        FairWheel x = new FairWheel();
        x.lock(0);
        Due.write(x, 0, 2, 0, 1, 9, 0);
        x.task(1, 0, 1);
        x.task(1, 0, 1);
        x.task(1, 0, 1);
        x.deadline(0, 30, 5);
        x.deadline(1, 20, 5);
        x.deadline(2, 10, 5);
        x.processors(3);
        x.run(1);
        DUE.is("the last number is on the first", 2, x.chosen(0));
        DUE.is("and took the lock", 2, x.holder(0));
        DUE.is("the others wait", 1, x.about(0, 6));
        DUE.is("the others wait", 1, x.about(1, 6));
        FairWheel y = new FairWheel();
        Due.write(y, 0, 5, 0, 1, 9, 0);
        Due.write(y, 1, 4, 0, 0);
        y.task(0, 0, 1);
        y.task(0, 1, 1);
        y.processors(2);
        y.run(1);
        DUE.is("who rings first is not heard", 2, y.about(1, 6));
        FairWheel z = new FairWheel();
        Due.write(z, 0, 4, 0, 0);
        Due.write(z, 1, 5, 0, 1, 9, 0);
        z.task(0, 0, 1);
        z.task(0, 1, 1);
        z.processors(2);
        z.run(1);
        DUE.is("who rings behind is heard", 0, z.about(0, 6));
        DUE.is("but none is chosen twice", 2, z.count(4));
    }

    private static void paysFirst() {
        DUE.sentence("first it PAYS, then it does ACTS");
        FairWheel x = Due.one(0, 1, 7, 0, 1, 9, 0);
        x.run(1);
        DUE.is("a new one comes behind the payment", 1000, x.virtual(1));
        FairWheel y = Due.one(1, 1, 10, 1, 1, 9, 0);
        y.run(1);
        DUE.is("with nothing left it paid", 1000, y.virtual(0));
        DUE.is("then it got one", 1, y.about(0, 13));
        FairWheel z = Due.one(4, 5, 13);
        z.run(1);
        DUE.is("it paid ahead of its fault", 400, z.virtual(0));
    }

    private static void tillOneEndsTheTurn() {
        DUE.sentence("then it does ACTS till one ends its turn");
        int[] long1000 = new int[1000];
        for (int i = 0; i < 996; i += 2) {
            long1000[i] = 5;
        }
        long1000[996] = 1;
        long1000[997] = 2;
        FairWheel x = Due.one(0, 1, long1000);
        x.run(1);
        DUE.is("498 bells and work in one turn", 998, x.about(0, 5));
        DUE.is("work", 1, x.about(0, 4));
        DUE.is("one payment", 1000, x.virtual(0));
        x.run(1);
        DUE.is("an act with work ends the turn", 0, x.about(0, 4));
        DUE.is("the next byte is not done yet", 0, x.about(0, 6));
        x.run(1);
        DUE.is("then it is", 4, x.about(0, 6));
    }

    private static void oneMore() {
        DUE.sentence("c is one more");
        FairWheel x = Due.one(0, 1, 1, 9, 0);
        for (int c = 1; c <= 12; c++) {
            x.run(1);
            DUE.is("clock", c, x.count(0));
        }
        DUE.is("rows", 10, x.count(4));
        for (int k = 0; k < 10; k++) {
            DUE.is("row " + k, k, x.row(k, 0));
        }
    }

    private static void fiveNumbers() {
        DUE.sentence("Each choice is a ROW of five numbers: c, the PROCESSOR, the TASK, its STANDING's CLASS, KEY");
        FairWheel x = new FairWheel();
        x.lock(0);
        Due.write(x, 0, 2, 0, 1, 9, 0);
        x.task(0, 0, 2);
        x.run(1);
        x.task(2, 0, 4);
        x.deadline(1, 70, 7);
        x.processors(2);
        x.run(2);
        int[][] due = {{0, 0, 0, 1, 0}, {1, 0, 1, 0, 71}, {1, 1, 0, 1, 500}, {2, 0, 0, 0, 71}};
        DUE.is("rows", due.length, x.count(4));
        for (int k = 0; k < due.length; k++) {
            for (int what = 0; what < 5; what++) {
                DUE.is("row " + k + " " + what, due[k][what], x.row(k, what));
            }
            DUE.is("no sixth number", -1, x.row(k, 5));
        }
    }

    private static void rowsKept() {
        DUE.sentence("8,000 ROWS are kept");
        FairWheel x = new FairWheel();
        Due.write(x, 0, Due.work(2100));
        for (int t = 0; t < 4; t++) {
            x.task(0, 0, 1);
        }
        x.processors(4);
        DUE.is("half of them", 1000, x.run(1000));
        DUE.is("all but one tick's", 999, x.run(999));
        DUE.is("rows", 7996, x.count(4));
        DUE.is("with four places left", 1, x.run(1000));
        DUE.is("rows", 8000, x.count(4));
        DUE.is("none more", 0, x.run(1));
        DUE.is("the first", 0, x.row(0, 0));
        DUE.is("the last", 1999, x.row(7999, 0));
        DUE.is("the last", 3, x.row(7999, 2));
        DUE.is("none behind", -1, x.row(8000, 0));
        DUE.is("the last can be forged", true, x.forge(7999, 4, 1));
        DUE.is("and is found", 7999, x.check());
        DUE.refused("none behind", false, 1, x, x.forge(8000, 4, 1));
    }

    private static void fewerThanFourPlaces() {
        DUE.sentence("a TICK with fewer than 4 places for ROWS left is not done");
        for (int n = 1; n <= 4; n++) {
            FairWheel x = new FairWheel();
            Due.write(x, 0, Due.work(8100));
            for (int t = 0; t < n; t++) {
                x.task(0, 0, 1);
            }
            x.processors(n);
            int done = 0;
            for (int i = 0; i < 8; i++) {
                done += x.run(1000);
            }
            int due = 7996 / n + 1;
            DUE.is("ticks of " + n, due, done);
            DUE.is("rows of " + n, due * n, x.count(4));
            DUE.is("none more", 0, x.run(1000));
            DUE.is("it is not refused", 0, x.status());
            DUE.is("the clock stays", due, x.count(0));
            DUE.is("chosen stays", 0, x.chosen(0) < 0 ? 1 : 0);
        }
    }

    private static void quietTicksNeedPlacesToo() {
        DUE.sentence("left is not done");
        FairWheel x = Due.one(0, 1, Due.work(7995, 0));
        for (int i = 0; i < 7; i++) {
            x.run(1000);
        }
        x.run(996);
        DUE.is("it ended with four places left", 7996, x.count(4));
        DUE.is("none is ready", 0, x.count(3));
        DUE.is("ticks go on", 1000, x.run(1000));
        DUE.is("ticks go on", 1000, x.run(1000));
        FairWheel y = Due.one(0, 1, Due.work(7996, 0));
        for (int i = 0; i < 7; i++) {
            y.run(1000);
        }
        DUE.is("the last tick", 997, y.run(1000));
        DUE.is("it ended with three places left", 7997, y.count(4));
        DUE.is("none is ready", 0, y.count(3));
        DUE.is("no tick, though none would be chosen", 0, y.run(1));
        DUE.is("the clock stays", 7997, y.count(0));
        DUE.is("chosen stays", 0, y.chosen(0));
        DUE.is("check", -1, y.check());
        DUE.is("checkedTo", 7997, y.checkedTo());
    }

    private static void spendsOne() {
        DUE.sentence("PAYS: with something LEFT it spends one of it");
        for (int kind = 1; kind <= 2; kind++) {
            FairWheel x = Due.one(kind, 1, 1, 100, 0);
            x.deadline(0, 100, 2);
            x.run(1);
            DUE.is("of two", 1, x.about(0, 13));
            x.run(1);
            DUE.is("of one", 0, x.about(0, 13));
            x.run(1);
            DUE.is("of none", 0, x.about(0, 13));
            DUE.is("the budget stays", 2, x.about(0, 11));
            DUE.is("the deadline stays", 100, x.about(0, 12));
        }
    }

    private static void deadlineThatSpent() {
        DUE.sentence("A Deadline one that spent does no more");
        FairWheel x = Due.one(1, 3, 1, 100, 0);
        x.deadline(0, 100, 2);
        x.run(2);
        DUE.is("no virtual", 0, x.virtual(0));
        DUE.is("no rest", 0, x.about(0, 3));
        DUE.is("its acts are done", 98, x.about(0, 4));
        x.run(1);
        DUE.is("without anything left it pays", 333, x.virtual(0));
        DUE.is("rest", 1, x.about(0, 3));
    }

    private static void othersPayOnce() {
        DUE.sentence("all others pay once");
        for (int kind = 0; kind < 4; kind++) {
            FairWheel x = Due.one(kind, 3, 1, 100, 0);
            x.run(1);
            DUE.is("virtual of kind " + kind, 333, x.virtual(0));
            DUE.is("rest of kind " + kind, 1, x.about(0, 3));
            x.run(1);
            DUE.is("virtual of kind " + kind, 666, x.virtual(0));
            DUE.is("rest of kind " + kind, 2, x.about(0, 3));
        }
    }

    private static void idlePaysTwice() {
        DUE.sentence("Idle ones twice");
        FairWheel x = Due.one(4, 3, 1, 100, 0);
        x.run(1);
        DUE.is("virtual", 666, x.virtual(0));
        DUE.is("rest of both", 2, x.about(0, 3));
        x.run(1);
        DUE.is("the rest is used between both", 1333, x.virtual(0));
        DUE.is("rest", 1, x.about(0, 3));
    }

    private static void cut() {
        DUE.sentence("VIRTUAL rises by (1,000 + REST) / SHARE, cut; REST is what is left of that");
        int[] shares = {1, 2, 3, 7, 499, 500, 501, 667, 998, 999, 1000};
        for (int share : shares) {
            FairWheel x = Due.one(0, share, 1, 100, 0);
            x.run(1);
            DUE.is("by " + share, 1000 / share, x.virtual(0));
            DUE.is("rest by " + share, 1000 % share, x.about(0, 3));
            x.run(40);
            DUE.is("41 by " + share, 41000 / share, x.virtual(0));
            DUE.is("rest of 41 by " + share, 41000 % share, x.about(0, 3));
        }
    }

    private static void serverPaysBesides() {
        DUE.sentence("(A Server pays besides.)");
        FairWheel x = Due.one(2, 3, 1, 100, 0);
        x.deadline(0, 100, 1);
        x.run(1);
        DUE.is("it spent", 0, x.about(0, 13));
        DUE.is("and paid", 333, x.virtual(0));
        x.run(1);
        DUE.is("with nothing left it pays once too", 666, x.virtual(0));
    }

    private static void bodies(String what, FairWheel x, int... due) {
        for (int body = 0; body < 12; body++) {
            DUE.is(what + " body " + body, body < due.length ? due[body] : 0, x.trace(body));
        }
    }

    private static void spendsBodies() {
        DUE.sentence("Who PAYS is asked whether it spends: 7 for Deadline and Server ones, 6 for others");
        for (int kind = 0; kind < 5; kind++) {
            boolean dated = kind == 1 || kind == 2;
            FairWheel x = Due.one(kind, 1, 1, 100, 0);
            DUE.is("none yet", 0, x.trace(6) + x.trace(7));
            x.run(3);
            DUE.is("6 of kind " + kind, dated ? 0 : 3, x.trace(6));
            DUE.is("7 of kind " + kind, dated ? 3 : 0, x.trace(7));
            x.deadline(0, 100, 2);
            x.run(3);
            DUE.is("7 with something left", dated ? 6 : 0, x.trace(7));
        }
    }

    private static void paysBodies() {
        DUE.sentence("then, if it pays: 0 for Fair, Deadline and Batch ones, 1 and 0 for Server ones,"
                + " 2 and 0 twice for Idle ones");
        int[][] due = {
            {2, 0, 0, 0, 0, 0, 2}, {2, 0, 0, 0, 0, 0, 0, 2}, {2, 2, 0, 0, 0, 0, 0, 2}, {2, 0, 0, 0, 0, 0, 2},
            {4, 0, 2, 0, 0, 0, 2},
        };
        for (int kind = 0; kind < 5; kind++) {
            FairWheel x = Due.one(kind, 1, 1, 100, 0);
            x.run(2);
            bodies("kind " + kind, x, due[kind]);
        }
        FairWheel d = Due.one(1, 1, 1, 100, 0);
        d.deadline(0, 100, 2);
        d.run(2);
        bodies("a Deadline one that spent", d, 0, 0, 0, 0, 0, 0, 0, 2);
        FairWheel s = Due.one(2, 1, 1, 100, 0);
        s.deadline(0, 100, 2);
        s.run(2);
        bodies("a Server one that spent", s, 2, 2, 0, 0, 0, 0, 0, 2);
    }

    private static void waitsBodies() {
        DUE.sentence("Who begins to wait (2, 4, 6): 3 for Fair and Deadline ones, 4 and 3 for Batch and Idle ones,"
                + " 5 and 3 for Server ones");
        int[][] acts = {{2, 0}, {4, 0}, {6, 1}};
        for (int[] act : acts) {
            for (int kind = 0; kind < 5; kind++) {
                FairWheel x = new FairWheel();
                x.lock(0);
                Due.write(x, 0, 2, 0, 1, 100, 0);
                Due.write(x, 1, act[0], act[1], 1, 9, 0);
                x.task(0, 0, 1);
                x.run(1);
                DUE.is("who takes a free lock does not wait", 0, x.trace(3) + x.trace(4) + x.trace(5));
                x.task(kind, 1, 1);
                x.processors(2);
                x.run(1);
                DUE.is("3 of kind " + kind, 1, x.trace(3));
                DUE.is("4 of kind " + kind, kind >= 3 ? 1 : 0, x.trace(4));
                DUE.is("5 of kind " + kind, kind == 2 ? 1 : 0, x.trace(5));
            }
        }
        FairWheel y = Due.one(4, 1, 6, 0, 6, -1, 1, 5, 0);
        y.run(1);
        DUE.is("no sleep is no waiting", 0, y.trace(3) + y.trace(4));
        FairWheel z = Due.one(3, 1, 4, 16);
        z.run(1);
        DUE.is("a fault is no waiting", 0, z.trace(3) + z.trace(4));
    }

    private static void refilledBody() {
        DUE.sentence("Who is REFILLED: 9");
        FairWheel x = Due.one(1, 1, 4, 0, 0);
        x.task(2, 0, 1);
        x.task(0, 0, 1);
        x.deadline(0, 3, 0);
        x.deadline(1, 4, 0);
        x.run(3);
        DUE.is("none yet", 0, x.trace(9));
        x.run(1);
        DUE.is("one", 1, x.trace(9));
        x.run(1);
        DUE.is("two", 2, x.trace(9));
        x.run(8);
        DUE.is("both in one tick", 7, x.trace(9));
        FairWheel y = new FairWheel();
        y.task(1, 0, 1);
        y.deadline(0, 5, 5);
        y.deadline(0, 6, 6);
        DUE.is("to be told is not to be refilled", 0, y.trace(9));
    }

    private static void earlyNeverRuns() {
        DUE.sentence("(8 never runs.)");
        FairWheel x = new FairWheel();
        x.lock(0);
        Due.write(x, 0, 2, 0, 6, 2, 3, 0, 1, 3, 0);
        for (int kind = 0; kind < 5; kind++) {
            x.task(kind, 0, 1);
            x.deadline(kind, 2, 1);
        }
        x.run(500);
        int ran = 0;
        for (int body = 0; body < 12; body++) {
            ran += x.trace(body) > 0 ? 1 : 0;
        }
        DUE.is("all but one ran", 11, ran);
        DUE.is("8", 0, x.trace(8));
    }

    private static void takesBodies() {
        DUE.sentence("Who gets a lock that another one gave, or left: 10, Idle ones 11");
        for (int gives = 0; gives <= 3; gives += 3) {
            for (int kind = 0; kind < 5; kind++) {
                FairWheel x = new FairWheel();
                x.lock(0);
                Due.write(x, 0, 2, 0, 1, 3, gives, 0, 1, 9, 0);
                x.task(0, 0, 1);
                x.run(1);
                DUE.is("who takes a free one", 0, x.trace(10) + x.trace(11));
                x.task(kind, 0, 1);
                x.processors(2);
                x.run(3);
                DUE.is("who got it", 1, x.holder(0));
                DUE.is("10 for kind " + kind, kind == 4 ? 0 : 1, x.trace(10));
                DUE.is("11 for kind " + kind, kind == 4 ? 1 : 0, x.trace(11));
                x.run(9);
                DUE.is("given to none", -1, x.holder(0));
                DUE.is("given to none", 1, x.trace(10) + x.trace(11));
            }
        }
    }

    private TickEdgesTest() {
    }
}
