import java.util.ArrayList;
import java.util.HashMap;
import java.util.List;
import java.util.Map;
import java.util.TreeMap;
import java.util.function.Consumer;

/**
 * A second program of the document, written as its words go and without regard to cost: ranks are compared
 * one by one, payments are tried one by one, and an image is its notes, done once more.
 */
final class Model {
    static final class T {
        int number, kind, program, share, rest, work, place, state, lock = -1, bell = -1, until = -1, fault;
        int period = 100, budget, deadline, left;
        long virtual;
        short[] row;

        boolean dated() {
            return kind == 1 || kind == 2;
        }

        void dates(int p, int b, int clock) {
            period = p;
            budget = b;
            deadline = clock + p;
            left = b;
        }
    }

    record Rank(int cls, long key, int number) {
        boolean ahead(Rank o) {
            return cls != o.cls ? cls < o.cls : key != o.key ? key < o.key : number < o.number;
        }
    }

    static final class Kernel {
        final List<T> tasks = new ArrayList<>();
        final Map<Integer, List<Byte>> programs = new HashMap<>();
        final TreeMap<Integer, T> locks = new TreeMap<>();
        final List<int[]> rows = new ArrayList<>();
        final List<Integer> ring = new ArrayList<>();
        final int[] bodies = new int[12];
        int[] chosen = {};
        int clock, processors = 1, rings;

        T add(int kind, int program, int share) {
            T t = new T();
            t.number = tasks.size();
            t.kind = kind;
            t.program = program;
            t.share = share;
            t.virtual = tasks.stream().filter(u -> u.state != 4).mapToLong(u -> u.virtual).min().orElse(0);
            t.dates(100, 0, clock);
            tasks.add(t);
            return t;
        }

        void share(T t, int s) {
            t.share = s;
            if (t.rest > s - 1) {
                t.rest = s - 1;
            }
        }

        int bell(int b) {
            int n = 0;
            for (T t : tasks) {
                if (t.state == 2 && t.bell == b) {
                    t.state = 0;
                    t.bell = -1;
                    n++;
                }
            }
            return n;
        }

        Rank rank(T t) {
            return t.dated() && t.left > 0 ? new Rank(0, t.deadline, t.number) : new Rank(1, t.virtual, t.number);
        }

        Rank standing(T t) {
            Rank best = rank(t);
            for (T u : tasks) {
                if (u.state == 1 && locks.get(u.lock) == t) {
                    Rank r = standing(u);
                    best = r.ahead(best) ? r : best;
                }
            }
            return best;
        }

        int run(int n) {
            int done = 0;
            while (done < n && 8000 - rows.size() >= 4) {
                tick();
                done++;
            }
            return done;
        }

        void tick() {
            for (T t : tasks) {
                if (t.state == 3 && t.until == clock) {
                    t.state = 0;
                    t.until = -1;
                }
                if (t.state != 4 && t.dated() && t.deadline == clock) {
                    t.deadline += t.period;
                    t.left = t.budget;
                    bodies[9]++;
                }
            }
            List<T> picked = new ArrayList<>();
            chosen = new int[processors];
            for (int p = 0; p < processors; p++) {
                T best = null;
                Rank r = null;
                for (T t : tasks) {
                    if (t.state == 0 && !picked.contains(t)) {
                        Rank s = standing(t);
                        if (best == null || s.ahead(r)) {
                            best = t;
                            r = s;
                        }
                    }
                }
                chosen[p] = best == null ? -1 : best.number;
                if (best != null) {
                    picked.add(best);
                    rows.add(new int[] {clock, p, best.number, r.cls, (int) r.key});
                }
            }
            for (T t : picked) {
                pays(t);
                while (acts(t)) {
                    continue;
                }
            }
            clock++;
        }

        void pays(T t) {
            bodies[t.dated() ? 7 : 6]++;
            boolean spent = t.left > 0;
            if (spent) {
                t.left--;
            }
            if (t.kind == 1 && spent) {
                return;
            }
            if (t.kind == 2) {
                bodies[1]++;
            }
            if (t.kind == 4) {
                bodies[2]++;
                payment(t);
            }
            payment(t);
        }

        void payment(T t) {
            bodies[0]++;
            int x = 1000 + t.rest;
            t.virtual += x / t.share;
            t.rest = x - x / t.share * t.share;
        }

        /** Whether the turn goes on. */
        boolean acts(T t) {
            if (t.work > 0) {
                t.work--;
                return false;
            }
            List<Byte> code = programs.get(t.program);
            if (code == null) {
                return ends(t, 1);
            }
            if (t.place >= code.size()) {
                return ends(t, 2);
            }
            int b = code.get(t.place);
            if (b == 0) {
                return ends(t, 0);
            }
            if (b < 0 || b > 12) {
                return ends(t, 10);
            }
            if (t.place + 1 >= code.size()) {
                return ends(t, 2);
            }
            int n = code.get(t.place + 1);
            int fault = fault(t, b, n);
            if (fault != 0) {
                return ends(t, fault);
            }
            t.place += 2;
            return does(t, b, n);
        }

        int fault(T t, int b, int n) {
            switch (b) {
                case 2:
                    if (!locks.containsKey(n)) {
                        return 7;
                    }
                    if (locks.get(n) == t) {
                        return 11;
                    }
                    List<Integer> found = new ArrayList<>(List.of(t.number));
                    for (T h = locks.get(n); h != null; h = h.state == 1 ? locks.get(h.lock) : null) {
                        if (h == t) {
                            ring.clear();
                            ring.addAll(found);
                            rings++;
                            return 12;
                        }
                        found.add(h.number);
                    }
                    return 0;
                case 3:
                    return !locks.containsKey(n) ? 7 : locks.get(n) != t ? 11 : 0;
                case 4:
                case 5:
                    return n < 0 || n > 15 ? 10 : 0;
                case 7:
                    return n < 0 || n > 31 ? 10 : tasks.size() == 200 ? 11 : 0;
                case 8:
                    return t.row != null ? 11 : n < 0 ? 4 : 0;
                case 9:
                case 12:
                    return t.row == null ? 8 : n < 0 || n >= t.row.length ? 9 : 0;
                case 10:
                    boolean is = n == 0 || n == t.kind || n == 1 && t.kind == 2 || n == 3 && t.kind == 4;
                    return n < 0 || n > 4 ? 10 : is ? 0 : 3;
                case 11:
                    return n == 0 || n == 3 ? 5 : n == 1 || n == 2 ? 6 : 10;
                default:
                    return 0;
            }
        }

        boolean does(T t, int b, int n) {
            switch (b) {
                case 1:
                    t.work = n > 0 ? n : t.work;
                    return true;
                case 2:
                    if (locks.get(n) == null) {
                        locks.put(n, t);
                        return true;
                    }
                    t.lock = n;
                    return waits(t, 1);
                case 3:
                    passes(n);
                    return true;
                case 4:
                    t.bell = n;
                    return waits(t, 2);
                case 5:
                    bell(n);
                    return true;
                case 6:
                    if (n <= 0) {
                        return true;
                    }
                    t.until = clock + n;
                    return waits(t, 3);
                case 7:
                    add(t.kind, n, t.share).dates(t.period, t.budget, clock);
                    return true;
                case 8:
                    t.row = new short[n];
                    return true;
                case 9:
                    t.row[n] = (short) clock;
                    return true;
                case 10:
                    t.left += n == 1 || n == 2 ? 1 : 0;
                    return true;
                default:
                    t.work = t.row[n] > 0 ? t.row[n] : t.work;
                    return true;
            }
        }

        boolean waits(T t, int state) {
            t.state = state;
            bodies[3]++;
            if (t.kind >= 3) {
                bodies[4]++;
            }
            if (t.kind == 2) {
                bodies[5]++;
            }
            return false;
        }

        boolean ends(T t, int fault) {
            t.state = 4;
            t.fault = fault;
            for (int l : new ArrayList<>(locks.keySet())) {
                if (locks.get(l) == t) {
                    passes(l);
                }
            }
            return false;
        }

        void passes(int l) {
            T next = null;
            for (T t : tasks) {
                if (t.state == 1 && t.lock == l && (next == null || standing(t).ahead(standing(next)))) {
                    next = t;
                }
            }
            locks.put(l, next);
            if (next != null) {
                next.state = 0;
                next.lock = -1;
                bodies[next.kind == 4 ? 11 : 10]++;
            }
        }
    }

    Kernel k = new Kernel();
    List<Consumer<Kernel>> notes = new ArrayList<>();
    List<Consumer<Kernel>> keptNotes;
    List<int[]> keptRows;
    int status;
    int checkedTo = -1;

    private int no(int why) {
        status = why;
        return -1;
    }

    private boolean note(Consumer<Kernel> what) {
        if (notes.size() == 1000) {
            status = 5;
            return false;
        }
        notes.add(what);
        status = 0;
        return true;
    }

    int program(int p, long eight, int n) {
        if (p < 0 || p > 31 || n < 0 || n > 8) {
            return no(1);
        }
        if (k.programs.getOrDefault(p, List.of()).size() + n > 1000) {
            return no(2);
        }
        Consumer<Kernel> what = x -> {
            List<Byte> code = x.programs.computeIfAbsent(p, q -> new ArrayList<>());
            for (int i = 0; i < n; i++) {
                code.add((byte) (eight >> 8 * (7 - i)));
            }
        };
        if (!note(what)) {
            return -1;
        }
        what.accept(k);
        return k.programs.get(p).size();
    }

    int task(int kind, int program, int share) {
        if (kind < 0 || kind > 4 || program < 0 || program > 31 || share < 1 || share > 1000) {
            return no(1);
        }
        if (k.tasks.size() == 200) {
            return no(2);
        }
        return note(x -> x.add(kind, program, share)) ? k.add(kind, program, share).number : -1;
    }

    private T alive(int t) {
        return t >= 0 && t < k.tasks.size() && k.tasks.get(t).state != 4 ? k.tasks.get(t) : null;
    }

    private T any(int t) {
        return t >= 0 && t < k.tasks.size() ? k.tasks.get(t) : null;
    }

    int share(int t, int s) {
        if (alive(t) == null) {
            return no(3);
        }
        if (s < 1 || s > 1000) {
            return no(1);
        }
        int was = alive(t).share;
        if (!note(x -> x.share(x.tasks.get(t), s))) {
            return -1;
        }
        k.share(k.tasks.get(t), s);
        return was;
    }

    boolean deadline(int t, int period, int budget) {
        if (alive(t) == null) {
            return no(3) == 0;
        }
        if (!alive(t).dated()) {
            return no(4) == 0;
        }
        if (period < 1 || period > 1000 || budget < 0 || budget > period) {
            return no(1) == 0;
        }
        if (!note(x -> x.tasks.get(t).dates(period, budget, x.clock))) {
            return false;
        }
        k.tasks.get(t).dates(period, budget, k.clock);
        return true;
    }

    int processors(int n) {
        if (n < 1 || n > 4) {
            return no(1);
        }
        int was = k.processors;
        if (!note(x -> x.processors = n)) {
            return -1;
        }
        k.processors = n;
        return was;
    }

    boolean lock(int l) {
        if (l < 0 || l > 99) {
            return no(1) == 0;
        }
        if (k.locks.containsKey(l)) {
            return no(2) == 0;
        }
        if (!note(x -> x.locks.put(l, null))) {
            return false;
        }
        k.locks.put(l, null);
        return true;
    }

    int ring(int b) {
        if (b < 0 || b > 15) {
            return no(1);
        }
        return note(x -> x.bell(b)) ? k.bell(b) : -1;
    }

    int run(int n) {
        if (n < 0 || n > 1000) {
            return no(1);
        }
        return note(x -> x.run(n)) ? k.run(n) : -1;
    }

    int chosen(int p) {
        return p >= 0 && p < k.chosen.length ? k.chosen[p] : -1;
    }

    int about(int t, int what) {
        T x = any(t);
        if (x == null || what < 0 || what > 14) {
            return -1;
        }
        int waits = x.state == 1 ? x.lock : x.state == 2 ? x.bell : -1;
        int rows = x.row == null ? -1 : x.row.length;
        boolean d = x.dated();
        return new int[] {x.kind, x.program, x.share, x.rest, x.work, x.place, x.state, waits,
            x.state == 3 ? x.until : -1, x.fault, d ? x.period : -1, d ? x.budget : -1, d ? x.deadline : -1,
            d ? x.left : -1, rows}[what];
    }

    long virtual(int t) {
        return any(t) == null ? -1 : any(t).virtual;
    }

    int small(int t, int i) {
        T x = any(t);
        return x == null || x.row == null || i < 0 || i >= x.row.length ? 0 : x.row[i];
    }

    long standing(int t, int what) {
        if (alive(t) == null || what < 0 || what > 2) {
            return -1;
        }
        Rank r = k.standing(alive(t));
        return what == 0 ? r.cls : what == 1 ? r.key : r.number;
    }

    int holder(int l) {
        return !k.locks.containsKey(l) ? -2 : k.locks.get(l) == null ? -1 : k.locks.get(l).number;
    }

    int ringed(int i) {
        return i >= 0 && i < k.ring.size() ? k.ring.get(i) : -1;
    }

    int row(int i, int what) {
        return i >= 0 && i < k.rows.size() && what >= 0 && what < 5 ? k.rows.get(i)[what] : -1;
    }

    boolean forge(int i, int what, int by) {
        if (i < 0 || i >= k.rows.size() || what < 0 || what > 4) {
            return no(1) == 0;
        }
        k.rows.get(i)[what] += by;
        status = 0;
        return true;
    }

    private static Kernel replayed(List<Consumer<Kernel>> notes) {
        Kernel other = new Kernel();
        notes.forEach(n -> n.accept(other));
        return other;
    }

    int check() {
        Kernel other = replayed(notes);
        for (int i = 0; i < k.rows.size(); i++) {
            if (!java.util.Arrays.equals(k.rows.get(i), other.rows.get(i))) {
                checkedTo = other.rows.get(i)[0];
                return i;
            }
        }
        checkedTo = other.clock;
        return -1;
    }

    int checkedTo() {
        return checkedTo;
    }

    long bound(int t) {
        T x = any(t);
        if (x == null || x.state != 0) {
            return -1;
        }
        Rank mine = k.standing(x);
        int m = 0;
        long s = 0;
        for (T u : k.tasks) {
            if (u.state != 0 || !k.standing(u).ahead(mine)) {
                continue;
            }
            if (!k.standing(u).equals(k.rank(u))) {
                m++;
            } else if (mine.cls == 0) {
                s += u.left;
            } else {
                long f = payments(u, mine);
                s += u.kind == 1 ? u.left + f : u.kind == 2 ? Math.max(u.left, f) : u.kind == 4 ? f / 2 + f % 2 : f;
            }
        }
        return m >= k.processors ? -1 : s / (k.processors - m) + 1;
    }

    private static long payments(T u, Rank mine) {
        long f = 0;
        long v = u.virtual;
        int rest = u.rest;
        while (!mine.ahead(new Rank(1, v, u.number))) {
            v += (1000 + rest) / u.share;
            rest = (1000 + rest) % u.share;
            f++;
        }
        return f;
    }

    int trace(int body) {
        return body >= 0 && body < 12 ? k.bodies[body] : -1;
    }

    int count(int what) {
        int alive = (int) k.tasks.stream().filter(t -> t.state != 4).count();
        int ready = (int) k.tasks.stream().filter(t -> t.state == 0).count();
        int[] all = {k.clock, k.tasks.size(), alive, ready, k.rows.size(), k.processors, k.rings, notes.size()};
        return what >= 0 && what < all.length ? all[what] : -1;
    }

    private static List<int[]> copied(List<int[]> rows) {
        List<int[]> copy = new ArrayList<>();
        rows.forEach(r -> copy.add(r.clone()));
        return copy;
    }

    long image() {
        keptNotes = new ArrayList<>(notes);
        keptRows = copied(k.rows);
        return digest();
    }

    boolean load() {
        if (keptNotes == null) {
            return no(2) == 0;
        }
        notes = new ArrayList<>(keptNotes);
        k = replayed(notes);
        k.rows.clear();
        k.rows.addAll(copied(keptRows));
        status = 0;
        return true;
    }

    long digest() {
        List<Long> all = new ArrayList<>(List.of((long) k.clock, (long) k.tasks.size(), (long) k.processors));
        for (T t : k.tasks) {
            for (int what = 0; what < 15; what++) {
                all.add((long) about(t.number, what));
            }
            all.add(t.virtual);
            for (int i = 0; t.row != null && i < t.row.length; i++) {
                all.add((long) t.row[i]);
            }
        }
        for (int l = 0; l < 100; l++) {
            all.add((long) holder(l));
        }
        for (int[] r : k.rows) {
            for (int x : r) {
                all.add((long) x);
            }
        }
        for (int body = 0; body < 12; body++) {
            all.add((long) trace(body));
        }
        long d = 7;
        for (long x : all) {
            d = d * 31 + x;
        }
        return d;
    }

    int status() {
        return status;
    }
}
