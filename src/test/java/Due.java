/** What the tests of the project share: they count the answers that are not as due, and write programs. */
final class Due {
    private final String test;
    private String sentence = "";
    private int sentences = 0;
    private int asked = 0;
    private int askedBefore = 0;
    private int wrong = 0;

    Due(String test) {
        this.test = test;
    }

    /** What is asked from here on is asked of these words of the document. */
    void sentence(String words) {
        eachIsAsked();
        sentence = "'" + words + "': ";
        sentences++;
    }

    private void eachIsAsked() {
        if (sentences > 0 && asked == askedBefore) {
            wrong++;
            System.out.println(test + ": " + sentence + "nothing was asked");
        }
        askedBefore = asked;
    }

    void is(String what, long want, long got) {
        asked++;
        if (got != want) {
            wrong++;
            System.out.println(test + ": " + sentence + what + " answered " + got + ", due is " + want);
        }
    }

    void is(String what, boolean want, boolean got) {
        is(what, want ? 1 : 0, got ? 1 : 0);
    }

    /** An answer and the status behind it. */
    void refused(String what, long answer, int why, FairWheel x, long got) {
        is(what, answer, got);
        is(what + ", status()", why, x.status());
    }

    void refused(String what, boolean answer, int why, FairWheel x, boolean got) {
        is(what, answer, got);
        is(what + ", status()", why, x.status());
    }

    void end() {
        eachIsAsked();
        String of = sentences > 0 ? " of " + sentences + " sentences" : "";
        System.out.println(test + ": " + asked + " answers" + of + ", " + wrong + " not as due");
        if (wrong != 0) {
            System.exit(1);
        }
    }

    static long eight(int... bytes) {
        long e = 0;
        for (int i = 0; i < 8; i++) {
            e = e << 8 | (i < bytes.length ? bytes[i] & 255 : 0);
        }
        return e;
    }

    /** Tells a program of any length by as many calls as it takes. */
    static void write(FairWheel x, int p, int... bytes) {
        for (int from = 0; from == 0 || from < bytes.length; from += 8) {
            int n = Math.min(8, bytes.length - from);
            int[] part = new int[n];
            System.arraycopy(bytes, from, part, 0, n);
            x.program(p, eight(part), n);
        }
    }

    /** A new object with PROGRAM 0 and one TASK of it. */
    static FairWheel one(int kind, int share, int... bytes) {
        FairWheel x = new FairWheel();
        write(x, 0, bytes);
        x.task(kind, 0, share);
        return x;
    }

    /** A PROGRAM that works for so many ticks, and then does these bytes. */
    static int[] work(int ticks, int... then) {
        int pairs = (ticks + 126) / 127;
        int[] bytes = new int[2 * pairs + then.length];
        for (int i = 0; i < pairs; i++) {
            bytes[2 * i] = 1;
            bytes[2 * i + 1] = Math.min(127, ticks - 127 * i);
        }
        System.arraycopy(then, 0, bytes, 2 * pairs, then.length);
        return bytes;
    }
}
