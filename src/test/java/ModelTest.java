import java.util.Random;

/** Runs of calls, made from fixed seeds, on FairWheel and on the naive Model: every answer must be the same. */
public final class ModelTest {
    private static final int RUNS = 600;
    private final Due due;
    private final int seed;
    private final Random random;
    private final FairWheel x = new FairWheel();
    private final Model m = new Model();
    private final int locks;
    private final int longest;

    private ModelTest(Due due, int seed) {
        this.due = due;
        this.seed = seed;
        random = new Random(seed);
        locks = 1 + random.nextInt(6);
        longest = seed % 10 == 0 ? 1000 : 20;
    }

    public static void main(String[] args) {
        Due due = new Due("ModelTest");
        for (int seed = 1; seed <= RUNS; seed++) {
            new ModelTest(due, seed).go();
        }
        due.end();
    }

    private void go() {
        begin();
        int calls = seed % 10 == 0 ? 60 : 150;
        for (int i = 0; i < calls; i++) {
            call();
            if (i % 10 == 0) {
                same("digest", m.digest(), x.digest());
            }
        }
        for (int t = -1; t <= m.count(1); t++) {
            for (int what = -1; what < 16; what++) {
                same("about " + t + " " + what, m.about(t, what), x.about(t, what));
                same("standing " + t + " " + what, m.standing(t, what), x.standing(t, what));
            }
            same("virtual " + t, m.virtual(t), x.virtual(t));
            same("bound " + t, m.bound(t), x.bound(t));
        }
        for (int i = -1; i < 13; i++) {
            same("trace " + i, m.trace(i), x.trace(i));
            same("count " + i, m.count(i), x.count(i));
            same("ringed " + i, m.ringed(i), x.ringed(i));
        }
        same("check", m.check(), x.check());
        same("checkedTo", m.checkedTo(), x.checkedTo());
        same("digest", m.digest(), x.digest());
    }

    private void same(String what, long want, long got) {
        due.is("seed " + seed + " " + what, want, got);
    }

    private void same(String what, boolean want, boolean got) {
        due.is("seed " + seed + " " + what, want, got);
    }

    private int one(int from, int to) {
        return from + random.nextInt(to - from + 1);
    }

    private void begin() {
        for (int l = 0; l < locks; l++) {
            same("lock", m.lock(l), x.lock(l));
        }
        for (int p = 0; p < 6; p++) {
            int parts = one(1, 4);
            for (int i = 0; i < parts; i++) {
                program(p, 8);
            }
        }
        for (int i = one(1, 5); i > 0; i--) {
            task();
        }
        int n = one(1, 4);
        same("processors", m.processors(n), x.processors(n));
    }

    private void program(int p, int n) {
        int[] bytes = new int[8];
        for (int i = 0; i < 8; i += 2) {
            pair(bytes, i);
        }
        long eight = Due.eight(bytes);
        same("program " + p, m.program(p, eight, n), x.program(p, eight, n));
    }

    /** Mostly bytes that do well, so that runs go far. */
    private void pair(int[] bytes, int i) {
        int[] codes = {1, 1, 1, 2, 2, 2, 2, 3, 3, 4, 5, 6, 6, 7, 8, 9, 10, 12, 1, 2};
        int code = codes[random.nextInt(codes.length)];
        int n;
        switch (code) {
            case 2:
            case 3:
                n = one(0, locks - 1);
                break;
            case 4:
            case 5:
                n = one(0, 2);
                break;
            case 7:
                n = one(0, 6);
                break;
            case 10:
                n = one(0, 2);
                break;
            default:
                n = one(0, 5);
                break;
        }
        if (one(0, 60) == 0) {
            code = one(-3, 15);
        }
        if (one(0, 60) == 0) {
            n = one(-128, 127);
        }
        bytes[i] = code;
        bytes[i + 1] = n;
    }

    private void task() {
        int kind = one(0, 4);
        int program = one(0, 40) == 0 ? one(-1, 33) : one(0, 5);
        int share = one(0, 20) == 0 ? one(-1, 1002) : one(0, 1) == 0 ? one(1, 10) : one(1, 1000);
        same("task", m.task(kind, program, share), x.task(kind, program, share));
        if (one(0, 1) == 0) {
            dates();
        }
    }

    private void dates() {
        int t = one(-1, m.count(1));
        int period = one(0, 10) == 0 ? one(-1, 1002) : one(1, 12);
        int budget = one(0, 10) == 0 ? one(-1, 1002) : one(0, period < 1 ? 1 : period);
        same("deadline", m.deadline(t, period, budget), x.deadline(t, period, budget));
    }

    private void call() {
        int a = one(-2, 12);
        int b = one(-2, 12);
        int t = one(-1, m.count(1));
        int k = one(-1, m.count(4));
        switch (one(0, 29)) {
            case 0:
                program(one(0, 9), one(-1, 9));
                break;
            case 1:
            case 2:
            case 3:
                task();
                break;
            case 4:
                same("share", m.share(t, a * 40), x.share(t, a * 40));
                break;
            case 5:
                dates();
                break;
            case 6:
                same("processors", m.processors(a), x.processors(a));
                break;
            case 7:
                same("lock", m.lock(a), x.lock(a));
                break;
            case 8:
                same("ring", m.ring(a % 4), x.ring(a % 4));
                break;
            case 9:
                same("chosen", m.chosen(b), x.chosen(b));
                break;
            case 10:
                same("small", m.small(t, a), x.small(t, a));
                break;
            case 11:
                same("holder", m.holder(a), x.holder(a));
                break;
            case 12:
                same("row", m.row(k, b), x.row(k, b));
                break;
            case 13:
                if (one(0, 5) == 0) {
                    same("forge", m.forge(k, b, a), x.forge(k, b, a));
                }
                break;
            case 14:
                same("check", m.check(), x.check());
                break;
            case 15:
                same("checkedTo", m.checkedTo(), x.checkedTo());
                break;
            case 16:
            case 17:
                same("bound", m.bound(t), x.bound(t));
                break;
            case 18:
                same("image", m.image(), x.image());
                break;
            case 19:
                if (one(0, 3) == 0) {
                    same("load", m.load(), x.load());
                }
                break;
            default:
                int n = one(0, 30) == 0 ? one(-1, 1001) : one(1, longest);
                same("run", m.run(n), x.run(n));
                break;
        }
        same("status", m.status(), x.status());
        same("chosen 0", m.chosen(0), x.chosen(0));
        same("count 3", m.count(3), x.count(3));
    }
}
