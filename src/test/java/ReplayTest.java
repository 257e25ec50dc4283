/** Promises 18 to 21 and 23 to 26: forging, checks, bounds, counts, images and digests. */
public final class ReplayTest {
    private static final Due DUE = new Due("ReplayTest");

    public static void main(String[] args) {
        forge();
        check();
        checkTellsAll();
        bound();
        boundByRank();
        boundIsKept();
        counts();
        image();
        imageOfTasks();
        imageOfRings();
        checkBeginsAnew();
        loadAndGoOn();
        digest();
        DUE.end();
    }

    /** Three Fair ones on two processors, with locks, a bell and a sleeper. */
    private static FairWheel busy() {
        FairWheel x = new FairWheel();
        x.lock(0);
        x.lock(7);
        Due.write(x, 0, 8, 3, 9, 1, 2, 0, 1, 3, 3, 0, 7, 1, 1, 5, 0);
        Due.write(x, 1, 2, 0, 6, 4, 5, 2, 1, 9, 0);
        Due.write(x, 2, 2, 7, 4, 2, 1, 6, 10, 0, 0);
        x.processors(2);
        for (int kind = 0; kind < 5; kind++) {
            x.task(kind, kind % 3, 3 + kind);
        }
        x.deadline(1, 7, 3);
        x.deadline(2, 5, 1);
        x.run(20);
        return x;
    }

    private static void forge() {
        FairWheel x = busy();
        int rows = x.count(4);
        DUE.is("18 no such row", false, x.forge(rows, 0, 1));
        DUE.is("18 status", 1, x.status());
        DUE.is("18 no such row", false, x.forge(-1, 0, 1));
        DUE.is("18 no such number", false, x.forge(0, 5, 1));
        DUE.is("18 no such number", false, x.forge(0, -1, 1));
        DUE.is("18 status", 1, x.status());
        int ready = x.count(3);
        int notes = x.count(7);
        for (int what = 0; what < 5; what++) {
            int was = x.row(4, what);
            DUE.is("18 forged", true, x.forge(4, what, 3));
            DUE.is("18 status", 0, x.status());
            DUE.is("18 it grew", was + 3, x.row(4, what));
            DUE.is("19 found", 4, x.check());
            x.forge(4, what, -3);
            DUE.is("19 as it was", -1, x.check());
        }
        DUE.is("18 the kernel is as it was", ready, x.count(3));
        DUE.is("18 no note", notes, x.count(7));
        int was = x.row(0, 4);
        x.forge(0, 4, Integer.MAX_VALUE);
        x.forge(0, 4, Integer.MAX_VALUE);
        DUE.is("18 wrapping", was - 2, x.row(0, 4));
        DUE.is("18 by none", true, x.forge(1, 1, 0));
        DUE.is("19 the first", 0, x.check());
        x.forge(0, 4, 2);
        DUE.is("19 around", -1, x.check());
    }

    private static void check() {
        FairWheel x = busy();
        DUE.is("20 before any", -1, x.checkedTo());
        DUE.is("19 all alike", -1, x.check());
        DUE.is("20 at its end", 20, x.checkedTo());
        int last = x.count(4) - 1;
        int clock = x.row(last, 0);
        x.forge(last, 0, 1000);
        DUE.is("19 the last", last, x.check());
        DUE.is("20 the clock there, not what was forged", clock, x.checkedTo());
        int early = x.row(5, 0);
        x.forge(5, 2, 1);
        DUE.is("19 the first of two", 5, x.check());
        DUE.is("20 its clock", early, x.checkedTo());
        long before = x.digest();
        x.check();
        DUE.is("19 a check changes nothing", before, x.digest());
        x.forge(5, 2, -1);
        x.run(30);
        DUE.is("19 the other one still", last, x.check());
        x.forge(last, 0, -1000);
        DUE.is("19 all alike", -1, x.check());
        DUE.is("20 at its end", 50, x.checkedTo());
        x.run(9);
        DUE.is("20 of the latest check", 50, x.checkedTo());
    }

    /** Each call that tells something is done once more: without one of them, rows would differ. */
    private static void checkTellsAll() {
        FairWheel x = busy();
        x.run(-1);
        x.task(9, 9, 9);
        x.share(0, 1);
        x.run(3);
        x.share(1, 1000);
        x.processors(4);
        x.lock(3);
        x.deadline(2, 4, 4);
        Due.write(x, 5, 2, 3, 1, 9, 4, 1, 3, 3, 1, 9, 0);
        x.task(3, 5, 5);
        x.task(4, 5, 6);
        x.run(15);
        x.ring(1);
        x.run(3);
        x.ring(1);
        x.run(40);
        DUE.is("19 all alike", -1, x.check());
        DUE.is("20 at its end", x.count(0), x.checkedTo());
        DUE.is("19 once more", -1, x.check());
    }

    /** Virtual: 1,000 for task 0, 0 for the others. */
    private static FairWheel queue() {
        FairWheel x = new FairWheel();
        Due.write(x, 0, 1, 127, 1, 127, 0);
        int[] kinds = {0, 0, 4, 1, 2};
        int[] shares = {1, 10, 3, 5, 7};
        for (int i = 0; i < 5; i++) {
            x.task(kinds[i], 0, shares[i]);
        }
        x.run(1);
        x.deadline(3, 100, 4);
        x.deadline(4, 50, 9);
        return x;
    }

    private static void bound() {
        FairWheel x = queue();
        DUE.is("21 10, half of 3, 4 and 5, the greater of 9 and 7", 31, x.bound(0));
        DUE.is("21 1 at equal virtual and a lower number, no F at a higher", 15, x.bound(2));
        DUE.is("21 4 and 0, the greater of 9 and 0", 14, x.bound(1));
        DUE.is("21 of class 0: what the other has left", 10, x.bound(3));
        DUE.is("21 the foremost", 1, x.bound(4));
        x.processors(2);
        DUE.is("21 by two", 16, x.bound(0));
        x.processors(4);
        DUE.is("21 by four", 8, x.bound(0));
        DUE.is("21 no such task", -1, x.bound(5));
        x.processors(1);
        x.share(4, 1000);
        DUE.is("21 F above what is left", 1 + 10 + 2 + 9 + 1000, x.bound(0));
        x.share(2, 4);
        DUE.is("21 half of 4", 1 + 10 + 2 + 9 + 1000, x.bound(0));
        x.share(2, 5);
        DUE.is("21 half of 5", 1 + 10 + 3 + 9 + 1000, x.bound(0));
    }

    /** Behind a payment that left a REST, and at an equal VIRTUAL. */
    private static void boundByRank() {
        FairWheel x = new FairWheel();
        Due.write(x, 0, 1, 127, 0);
        x.task(0, 0, 300);
        x.task(0, 0, 1000);
        x.run(1);
        DUE.is("12 cut", 3, x.virtual(0));
        DUE.is("21 1 pays 3 times to 3, which is behind by number", 4, x.bound(0));
        x.run(3);
        DUE.is("12 at 3", 3, x.virtual(1));
        DUE.is("21 the lower number is ahead", 1, x.bound(0));
        x.share(0, 1000);
        DUE.is("11 rest", 100, x.about(0, 3));
        DUE.is("21 0 pays once to be behind", 2, x.bound(1));
        x.run(4);
        x.share(0, 500);
        DUE.is("12 at 5", 5, x.virtual(0));
        DUE.is("12 at 5", 5, x.virtual(1));
        FairWheel y = new FairWheel();
        Due.write(y, 0, 1, 127, 0);
        y.task(0, 0, 7);
        y.task(0, 0, 999);
        y.run(1);
        DUE.is("12 of 7", 142, y.virtual(0));
        y.run(1);
        DUE.is("11 rest of 999", 1, y.about(1, 3));
        DUE.is("21 (141 by 999 - 1) by 1,000, rounded up, and one", 142, y.bound(0));
    }

    /** With nothing but work going on, a task is chosen within its bound. */
    private static void boundIsKept() {
        for (int t = 0; t < 5; t++) {
            for (int p = 1; p <= 4; p++) {
                FairWheel x = queue();
                x.processors(p);
                int ticks = (int) x.bound(t);
                int from = x.count(4);
                x.run(ticks);
                boolean found = false;
                for (int k = from; k < x.count(4); k++) {
                    found |= x.row(k, 2) == t;
                }
                DUE.is("21 chosen within " + ticks, true, found);
            }
        }
    }

    private static void counts() {
        FairWheel x = busy();
        int[] due = {20, x.count(1), 0, 0, x.count(4), 2, 0, 2 + 2 + 2 + 2 + 1 + 5 + 2 + 1};
        for (int t = 0; t < x.count(1); t++) {
            due[2] += x.about(t, 6) != 4 ? 1 : 0;
            due[3] += x.about(t, 6) == 0 ? 1 : 0;
        }
        for (int what = 0; what < 8; what++) {
            DUE.is("23 count " + what, due[what], x.count(what));
        }
        DUE.is("23 another", -1, x.count(8));
        DUE.is("23 another", -1, x.count(-1));
        DUE.is("23 rows up to the last", true, x.row(x.count(4) - 1, 0) >= 0);
        DUE.is("23 none behind", -1, x.row(x.count(4), 0));
    }

    private static void image() {
        FairWheel x = busy();
        DUE.is("25 none yet", false, x.load());
        DUE.is("25 status", 2, x.status());
        x.forge(3, 3, 5);
        long kept = x.digest();
        DUE.is("24 its digest", kept, x.image());
        int chosen = x.chosen(1);
        int notes = x.count(7);
        x.run(50);
        x.lock(50);
        x.program(9, 0, 1);
        x.task(0, 9, 1);
        x.processors(4);
        x.run(9);
        x.forge(0, 0, 1);
        DUE.is("24 it went on", false, kept == x.digest());
        DUE.is("25 load", true, x.load());
        DUE.is("25 status", 0, x.status());
        DUE.is("25 as it was", kept, x.digest());
        DUE.is("25 chosen", chosen, x.chosen(1));
        DUE.is("25 notes", notes, x.count(7));
        DUE.is("25 no lock", -2, x.holder(50));
        DUE.is("25 a program is not there", 0, x.program(9, 0, 0));
        DUE.is("25 the row forged before", 3, x.check());
        x.run(5);
        DUE.is("25 once more", true, x.load());
        DUE.is("25 as it was", kept, x.digest());
    }

    /** Tasks in every state come back, and what comes behind is new in all its numbers. */
    private static void imageOfTasks() {
        FairWheel x = new FairWheel();
        x.lock(0);
        Due.write(x, 0, 2, 0, 6, 100, 0);
        Due.write(x, 1, 8, 0, 2, 0, 0);
        Due.write(x, 2, 4, 9, 0);
        Due.write(x, 3, 11, 1);
        Due.write(x, 4, 8, 3, 6, 2, 9, 2, 6, 100, 0);
        Due.write(x, 5, 8, 3, 1, 100);
        x.processors(4);
        for (int t = 0; t < 5; t++) {
            x.task(2, t, 7 + t);
            x.deadline(t, 50 + t, 3 + t);
        }
        x.run(4);
        int[] states = {3, 1, 2, 4, 3};
        for (int t = 0; t < 5; t++) {
            DUE.is("11 state", states[t], x.about(t, 6));
        }
        int[][] was = new int[5][15];
        for (int t = 0; t < 5; t++) {
            for (int what = 0; what < 15; what++) {
                was[t][what] = x.about(t, what);
            }
        }
        x.image();
        x.ring(9);
        x.run(300);
        for (int p = 0; p < 5; p++) {
            x.task(2, p, 5);
        }
        x.run(20);
        DUE.is("13 a row that another task gets later", true, x.small(9, 2) != 0);
        x.load();
        for (int t = 0; t < 5; t++) {
            for (int what = 0; what < 15; what++) {
                DUE.is("25 about " + t + " " + what, was[t][what], x.about(t, what));
            }
        }
        DUE.is("25 short, of the tick in which it woke", 3, x.small(4, 2));
        int[] anew = {0, 5, 5, 0, 0, 0, 0, -1, -1, 0, -1, -1, -1, -1, -1};
        for (int t = 5; t < 10; t++) {
            x.task(0, 5, 5);
            for (int what = 0; what < 15; what++) {
                DUE.is("3 a new one " + what, anew[what], x.about(t, what));
            }
        }
        x.processors(4);
        x.run(9);
        for (int t = 5; t < 10; t++) {
            DUE.is("13 its row is all 0", 0, x.small(t, 2));
        }
        DUE.is("19 check", -1, x.check());
    }

    /** What the replay told itself in one check is gone in the next one. */
    private static void checkBeginsAnew() {
        FairWheel x = new FairWheel();
        Due.write(x, 0, 1, 100, 2, 5, 1, 100, 0);
        x.task(0, 0, 1);
        x.task(0, 0, 1);
        x.image();
        x.run(5);
        x.processors(4);
        x.lock(5);
        x.run(150);
        DUE.is("19 check", -1, x.check());
        DUE.is("19 once more", -1, x.check());
        x.load();
        x.run(300);
        DUE.is("11 no lock", 7, x.about(0, 9));
        DUE.is("19 without the lock", -1, x.check());
        DUE.is("20 at its end", 300, x.checkedTo());
    }

    private static void imageOfRings() {
        FairWheel x = new FairWheel();
        x.lock(0);
        x.lock(1);
        Due.write(x, 0, 2, 0, 6, 2, 2, 1, 0);
        Due.write(x, 1, 2, 1, 6, 3, 2, 0, 0);
        x.processors(2);
        x.task(0, 0, 1);
        x.task(0, 1, 1);
        x.run(1);
        long early = x.image();
        x.run(9);
        DUE.is("16 a ring", 1, x.ringed(0));
        DUE.is("20 check", -1, x.check());
        DUE.is("20 at its end", 10, x.checkedTo());
        x.load();
        DUE.is("25 no ring yet", -1, x.ringed(0));
        DUE.is("25 no ring yet", 0, x.count(6));
        DUE.is("25 as it was", early, x.digest());
        DUE.is("20 of the latest check", 10, x.checkedTo());
        x.run(9);
        DUE.is("16 the ring again", 1, x.ringed(0));
        DUE.is("23 one", 1, x.count(6));
        x.image();
        x.task(0, 0, 1);
        x.task(0, 1, 1);
        x.run(9);
        DUE.is("16 another ring", 3, x.ringed(0));
        DUE.is("23 two", 2, x.count(6));
        x.load();
        DUE.is("25 the ring of the image", 1, x.ringed(0));
        DUE.is("25 the ring of the image", 0, x.ringed(1));
        DUE.is("23 one", 1, x.count(6));
    }

    /** Behind an image that was loaded, a check does what was told till the image, and behind it. */
    private static void loadAndGoOn() {
        FairWheel x = busy();
        x.image();
        x.run(7);
        x.task(0, 1, 9);
        x.share(0, 900);
        x.run(30);
        x.load();
        x.processors(3);
        x.task(4, 0, 2);
        x.run(40);
        DUE.is("19 all alike", -1, x.check());
        DUE.is("20 at its end", 60, x.checkedTo());
        FairWheel y = busy();
        y.processors(3);
        y.task(4, 0, 2);
        y.run(40);
        DUE.is("25 as if the rest had not been", y.digest(), x.digest());
        x.image();
        x.load();
        DUE.is("25 the same", y.digest(), x.digest());
    }

    private static long digestOf(FairWheel x) {
        long d = 7;
        d = d * 31 + x.count(0);
        d = d * 31 + x.count(1);
        d = d * 31 + x.count(5);
        for (int t = 0; t < x.count(1); t++) {
            for (int what = 0; what <= 14; what++) {
                d = d * 31 + x.about(t, what);
            }
            d = d * 31 + x.virtual(t);
            for (int i = 0; i < x.about(t, 14); i++) {
                d = d * 31 + x.small(t, i);
            }
        }
        for (int l = 0; l < 100; l++) {
            d = d * 31 + x.holder(l);
        }
        for (int k = 0; k < x.count(4); k++) {
            for (int what = 0; what < 5; what++) {
                d = d * 31 + x.row(k, what);
            }
        }
        for (int body = 0; body < 12; body++) {
            d = d * 31 + x.trace(body);
        }
        return d;
    }

    private static void digest() {
        FairWheel x = new FairWheel();
        DUE.is("26 of a new one", digestOf(x), x.digest());
        FairWheel y = busy();
        DUE.is("26 it has short numbers", true, y.about(0, 14) == 3);
        DUE.is("26 of a busy one", digestOf(y), y.digest());
        FairWheel z = busy();
        z.forge(2, 2, -7);
        long forged = z.image();
        DUE.is("24 the same", forged, z.digest());
        DUE.is("26 of forged rows", digestOf(z), forged);
    }

    private ReplayTest() {
    }
}
