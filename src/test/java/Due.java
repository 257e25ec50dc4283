/** What the tests of the project share: they count the answers that are not as due, and write programs. */
final class Due {
    private final String test;
    private int asked = 0;
    private int wrong = 0;

    Due(String test) {
        this.test = test;
    }

    void is(String what, long want, long got) {
        asked++;
        if (got != want) {
            wrong++;
            System.out.println(test + ": " + what + " answered " + got + ", due is " + want);
        }
    }

    void is(String what, boolean want, boolean got) {
        is(what, want ? 1 : 0, got ? 1 : 0);
    }

    /** An answer and the status behind it. */
    void refused(String what, long answer, int why, FairWheel x, long got) {
        is(what, answer, got);
        is(what + ", status()", why, x.status());
    }

    void end() {
        System.out.println(test + ": " + asked + " answers, " + wrong + " not as due");
        if (wrong != 0) {
            System.exit(1);
        }
    }

    static long eight(int... bytes) {
        long e = 0;
        for (int i = 0; i < 8; i++) {
            e = e << 8 | (i < bytes.length ? bytes[i] & 255 : 0);
        }
        return e;
    }

    /** Tells a program of any length by as many calls as it takes. */
    static void write(FairWheel x, int p, int... bytes) {
        for (int from = 0; from == 0 || from < bytes.length; from += 8) {
            int n = Math.min(8, bytes.length - from);
            int[] part = new int[n];
            System.arraycopy(bytes, from, part, 0, n);
            x.program(p, eight(part), n);
        }
    }
}
