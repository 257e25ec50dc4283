/** Promises 1 to 8 and 27: what may be told, what is refused, and why. */
public final class CallsTest {
    private static final Due DUE = new Due("CallsTest");

    public static void main(String[] args) {
        aNewObject();
        program();
        programsEnd();
        task();
        share();
        deadline();
        processors();
        lock();
        ring();
        status();
        DUE.end();
    }

    private static void aNewObject() {
        FairWheel x = new FairWheel();
        int[] counts = {0, 0, 0, 0, 0, 1, 0, 0};
        for (int i = 0; i < counts.length; i++) {
            DUE.is("1 count " + i, counts[i], x.count(i));
        }
        for (int l = 0; l < 100; l++) {
            DUE.is("1 holder " + l, -2, x.holder(l));
        }
        for (int p = 0; p < 32; p++) {
            DUE.is("1 program " + p + " is empty", 1, x.program(p, 0, 1));
        }
        FairWheel y = new FairWheel();
        DUE.is("1 status", 0, y.status());
        DUE.is("1 chosen", -1, y.chosen(0));
        DUE.is("1 ringed", -1, y.ringed(0));
        DUE.is("1 row", -1, y.row(0, 0));
        DUE.is("1 about", -1, y.about(0, 0));
        DUE.is("1 checkedTo", -1, y.checkedTo());
        DUE.is("1 check", -1, y.check());
        DUE.is("1 checkedTo", 0, y.checkedTo());
        for (int body = 0; body < 12; body++) {
            DUE.is("1 trace " + body, 0, y.trace(body));
        }
    }

    private static void program() {
        FairWheel x = new FairWheel();
        DUE.is("2 three bytes", 3, x.program(0, Due.eight(1, 2, 0), 3));
        DUE.is("2 none more", 3, x.program(0, -1, 0));
        DUE.is("2 eight more", 11, x.program(0, 0, 8));
        DUE.is("2 another one, empty", 0, x.program(31, -1, 0));
        DUE.refused("2 p below", -1, 1, x, x.program(-1, 0, 1));
        DUE.refused("2 p above", -1, 1, x, x.program(32, 0, 1));
        DUE.refused("2 p far", -1, 1, x, x.program(Integer.MIN_VALUE, 0, 1));
        DUE.refused("2 n below", -1, 1, x, x.program(0, 0, -1));
        DUE.refused("2 n above", -1, 1, x, x.program(0, 0, 9));
        DUE.refused("2 n far", -1, 1, x, x.program(0, 0, Integer.MAX_VALUE));
        for (int i = 1; i <= 124; i++) {
            DUE.is("2 it grows", 8 * i, x.program(5, 0, 8));
        }
        DUE.is("2 to 999", 999, x.program(5, 0, 7));
        DUE.refused("2 above 1,000", -1, 2, x, x.program(5, 0, 2));
        DUE.is("2 to 1,000", 1000, x.program(5, 0, 1));
        DUE.is("2 none more is taken", 1000, x.program(5, 0, 0));
        DUE.refused("2 above 1,000", -1, 2, x, x.program(5, 0, 1));
        DUE.refused("2 n wrong is asked first", -1, 1, x, x.program(5, 0, 9));
        DUE.is("2 refused ones are not noted", 3 + 1 + 126 + 1, x.count(7));
    }

    /** Bytes are the highest first, and an empty PROGRAM is there. */
    private static void programsEnd() {
        FairWheel x = new FairWheel();
        x.program(0, 0, 0);
        x.program(1, Due.eight(1, 2, 0, 99, 99, 99, 99, 99), 3);
        x.task(0, 0, 1);
        x.task(0, 1, 1);
        x.task(0, 2, 1);
        x.processors(3);
        x.run(3);
        DUE.is("2 beyond an empty one", 2, x.about(0, 9));
        DUE.is("2 ended by byte 0", 0, x.about(1, 9));
        DUE.is("2 ended", 4, x.about(1, 6));
        DUE.is("2 its place", 2, x.about(1, 5));
        DUE.is("2 not there", 1, x.about(2, 9));
        FairWheel y = new FairWheel();
        int[] far = new int[1000];
        for (int i = 0; i < 1000; i += 2) {
            far[i] = 1;
        }
        Due.write(y, 0, far);
        y.task(0, 0, 1);
        DUE.is("2 a long program in one turn", 1, y.run(1));
        DUE.is("2 its place is behind it", 1000, y.about(0, 5));
        DUE.is("2 and beyond", 2, y.about(0, 9));
    }

    private static void task() {
        FairWheel x = new FairWheel();
        int[] kinds = {-1, 5, Integer.MIN_VALUE, Integer.MAX_VALUE};
        for (int wrong : kinds) {
            DUE.refused("3 kind " + wrong, -1, 1, x, x.task(wrong, 0, 1));
        }
        DUE.refused("3 program -1", -1, 1, x, x.task(0, -1, 1));
        DUE.refused("3 program 32", -1, 1, x, x.task(0, 32, 1));
        DUE.refused("3 share 0", -1, 1, x, x.task(0, 0, 0));
        DUE.refused("3 share 1,001", -1, 1, x, x.task(0, 0, 1001));
        DUE.is("3 none came", 0, x.count(1));
        DUE.is("3 the first", 0, x.task(4, 31, 1000));
        int[] fair = {4, 31, 1000, 0, 0, 0, 0, -1, -1, 0, -1, -1, -1, -1, -1};
        for (int what = 0; what < fair.length; what++) {
            DUE.is("3 about " + what, fair[what], x.about(0, what));
        }
        x.run(7);
        DUE.is("3 a Server one", 1, x.task(2, 3, 1));
        int[] server = {2, 3, 1, 0, 0, 0, 0, -1, -1, 0, 100, 0, 107, 0, -1};
        for (int what = 0; what < server.length; what++) {
            DUE.is("3 about a Server " + what, server[what], x.about(1, what));
        }
        DUE.is("3 virtual without another", 0, x.virtual(1));
        for (int t = 2; t < 200; t++) {
            DUE.is("3 by numbers", t, x.task(t % 5, 0, 1));
        }
        DUE.refused("3 200 are there", -1, 2, x, x.task(0, 0, 1));
        DUE.refused("3 wrong is asked first", -1, 1, x, x.task(0, 0, 0));
        DUE.is("3 count", 200, x.count(1));
        newVirtual();
    }

    /** The least VIRTUAL of those that have not ENDED, sleepers and waiters too. */
    private static void newVirtual() {
        FairWheel x = new FairWheel();
        Due.write(x, 0, 1, 100, 0);
        Due.write(x, 1, 6, 100, 0);
        Due.write(x, 2, 0);
        x.task(0, 0, 2);
        x.run(3);
        DUE.is("3 paid three times", 1500, x.virtual(0));
        x.task(0, 1, 10);
        DUE.is("3 least of one", 1500, x.virtual(1));
        x.run(1);
        DUE.is("3 the lower number first", 2000, x.virtual(0));
        x.run(1);
        DUE.is("3 it pays and sleeps", 1600, x.virtual(1));
        DUE.is("3 it sleeps", 3, x.about(1, 6));
        x.task(0, 2, 1000);
        DUE.is("3 a sleeper has the least", 1600, x.virtual(2));
        x.run(1);
        DUE.is("3 it ended", 4, x.about(2, 6));
        DUE.is("3 it paid", 1601, x.virtual(2));
        x.task(0, 0, 1);
        DUE.is("3 still the sleeper's", 1600, x.virtual(3));
        DUE.is("3 rest", 0, x.about(3, 3));
    }

    private static void share() {
        FairWheel x = new FairWheel();
        Due.write(x, 0, 1, 3, 0);
        x.task(0, 0, 700);
        DUE.refused("4 no such task", -1, 3, x, x.share(1, 5));
        DUE.refused("4 no such task", -1, 3, x, x.share(-1, 5));
        DUE.refused("4 task ahead of share", -1, 3, x, x.share(1, 0));
        DUE.refused("4 share 0", -1, 1, x, x.share(0, 0));
        DUE.refused("4 share 1,001", -1, 1, x, x.share(0, 1001));
        x.run(1);
        DUE.is("4 rest", 300, x.about(0, 3));
        DUE.is("4 what it was", 700, x.share(0, 301));
        DUE.is("4 rest stays", 300, x.about(0, 3));
        DUE.is("4 what it was", 301, x.share(0, 300));
        DUE.is("4 rest is cut", 299, x.about(0, 3));
        DUE.is("4 what it was", 300, x.share(0, 1000));
        DUE.is("4 rest stays", 299, x.about(0, 3));
        x.run(1);
        DUE.is("4 it pays by the new one", 2, x.virtual(0));
        DUE.is("4 rest is carried", 299, x.about(0, 3));
        x.run(9);
        DUE.refused("4 ended", -1, 3, x, x.share(0, 5));
        DUE.is("4 share stays", 1000, x.about(0, 2));
    }

    private static void deadline() {
        FairWheel x = new FairWheel();
        Due.write(x, 0, 1, 3, 0);
        x.task(1, 0, 1);
        x.task(2, 0, 1);
        for (int kind : new int[] {0, 3, 4}) {
            int t = x.task(kind, 0, 1);
            DUE.is("5 of another kind", false, x.deadline(t, 10, 5));
            DUE.is("5 status", 4, x.status());
            DUE.is("5 kind ahead of numbers", false, x.deadline(t, 0, 5));
            DUE.is("5 status", 4, x.status());
        }
        int[][] wrong = {{0, 0}, {1001, 0}, {10, -1}, {10, 11}, {-5, -5}, {Integer.MIN_VALUE, 0}};
        for (int[] w : wrong) {
            DUE.is("5 wrong " + w[0] + " " + w[1], false, x.deadline(0, w[0], w[1]));
            DUE.is("5 status", 1, x.status());
        }
        DUE.is("5 no such task", false, x.deadline(9, 0, 0));
        DUE.is("5 status", 3, x.status());
        x.run(2);
        DUE.is("5 taken", true, x.deadline(0, 10, 10));
        DUE.is("5 status", 0, x.status());
        int[] told = {10, 10, 12, 10};
        for (int i = 0; i < 4; i++) {
            DUE.is("5 about " + (10 + i), told[i], x.about(0, 10 + i));
        }
        DUE.is("5 least", true, x.deadline(1, 1, 0));
        DUE.is("5 most", true, x.deadline(1, 1000, 1000));
        DUE.is("5 deadline", 1002, x.about(1, 12));
        x.run(30);
        DUE.is("5 it ended", 4, x.about(0, 6));
        DUE.is("5 ended", false, x.deadline(0, 10, 5));
        DUE.is("5 status", 3, x.status());
    }

    private static void processors() {
        FairWheel x = new FairWheel();
        DUE.is("6 one at first", 1, x.processors(4));
        DUE.is("6 four", 4, x.processors(2));
        DUE.refused("6 none", -1, 1, x, x.processors(0));
        DUE.refused("6 five", -1, 1, x, x.processors(5));
        DUE.is("6 two", 2, x.processors(2));
        DUE.is("6 count", 2, x.count(5));
    }

    private static void lock() {
        FairWheel x = new FairWheel();
        DUE.is("7 the first", true, x.lock(0));
        DUE.is("7 the last", true, x.lock(99));
        DUE.is("7 status", 0, x.status());
        for (int wrong : new int[] {-1, 100, Integer.MAX_VALUE}) {
            DUE.is("7 none " + wrong, false, x.lock(wrong));
            DUE.is("7 status", 1, x.status());
        }
        DUE.is("7 there", false, x.lock(99));
        DUE.is("7 status", 2, x.status());
        DUE.is("7 notes", 2, x.count(7));
        DUE.is("7 free", -1, x.holder(99));
        DUE.is("7 not there", -2, x.holder(98));
    }

    private static void ring() {
        FairWheel x = new FairWheel();
        Due.write(x, 0, 4, 15, 0);
        Due.write(x, 1, 4, 0, 0);
        for (int i = 0; i < 3; i++) {
            x.task(i, 0, 1);
        }
        x.task(0, 1, 1);
        x.processors(4);
        x.run(1);
        DUE.is("8 none is ready", 0, x.count(3));
        DUE.is("8 another bell", 0, x.ring(14));
        DUE.is("8 three", 3, x.ring(15));
        DUE.is("8 ready", 3, x.count(3));
        DUE.is("8 waits for none", -1, x.about(1, 7));
        DUE.is("8 still waits", 2, x.about(3, 6));
        DUE.is("8 once", 0, x.ring(15));
        DUE.is("8 the other", 1, x.ring(0));
        DUE.refused("8 no such bell", -1, 1, x, x.ring(16));
        DUE.refused("8 no such bell", -1, 1, x, x.ring(-1));
    }

    private static void status() {
        FairWheel x = new FairWheel();
        x.load();
        DUE.is("27 no image", 2, x.status());
        x.check();
        x.image();
        x.digest();
        x.about(0, 0);
        x.bound(0);
        x.holder(0);
        x.standing(0, 0);
        DUE.is("27 what may not be refused does not count", 2, x.status());
        x.lock(5);
        DUE.is("27 taken", 0, x.status());
        x.forge(0, 0, 1);
        DUE.is("27 no row", 1, x.status());
        x.load();
        DUE.is("27 loaded", 0, x.status());
        x.run(-1);
        DUE.is("27 run", 1, x.status());
        x.run(0);
        DUE.is("27 run of none", 0, x.status());
    }

    private CallsTest() {
    }
}
