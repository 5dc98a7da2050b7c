import java.math.BigInteger;
import java.util.ArrayDeque;
import java.util.ArrayList;
import java.util.Arrays;
import java.util.HashMap;
import java.util.HashSet;
import java.util.List;
import java.util.Map;
import java.util.PriorityQueue;
import java.util.Set;
import java.util.function.Predicate;
import java.util.function.ToIntFunction;

/**
 * The document once more, told in another way: whole states, plain searches from now on, rows tried one by one.
 * It is slow and takes what memory it likes; RandomRuns compares the class with it.
 */
final class Oracle {
    static final int NONE = -1;

    /** A family as it is told. */
    static final class Kin {
        int lines, loaf, compare;
        List<int[]> persons = new ArrayList<>(); // like, nose, child, stays
        List<int[]> posts = new ArrayList<>(); // strict, keen, looks

        Kin copy() {
            Kin k = new Kin();
            k.lines = lines;
            k.loaf = loaf;
            k.compare = compare;
            for (int[] p : persons) k.persons.add(p.clone());
            for (int[] p : posts) k.posts.add(p.clone());
            return k;
        }

        int risk(int person, int post) {
            return (100 - persons.get(person)[0]) * posts.get(post)[0] / 100;
        }

        boolean isEnd(int over) {
            for (int p = 0; p < persons.size(); p++) {
                boolean isOver = (over >> p & 1) == 1;
                if (isOver == (persons.get(p)[3] == 1)) return false;
            }
            return true;
        }
    }

    /** All that has come so far. */
    static final class Now {
        int over, side, days, risk;
        int[] last = {NONE, NONE};
        List<Integer> stamps = new ArrayList<>();

        Now copy() {
            Now n = new Now();
            n.over = over;
            n.side = side;
            n.days = days;
            n.risk = risk;
            n.last = last.clone();
            n.stamps = new ArrayList<>(stamps);
            return n;
        }

        /** A state as the document has it. */
        String state() {
            StringBuilder s = new StringBuilder();
            s.append(over).append('/').append(side).append('/').append(last[0]).append('/').append(last[1]).append('/');
            for (int i = Math.max(0, stamps.size() - 3); i < stamps.size(); i++) s.append(stamps.get(i) % 10);
            return s.toString();
        }

        int lies() {
            int n = 0;
            for (int i = 1; i < stamps.size(); i++) if (stamps.get(i) % 10 == stamps.get(i - 1) % 10) n++;
            return n;
        }
    }

    static int why(Kin k, Now n, int person, int child, int post) {
        if ((n.over >> person & 1) != n.side) return 1;
        if (k.persons.get(person)[2] == 1) return 2;
        if (child != NONE && (k.persons.get(child)[2] == 0 || (n.over >> child & 1) != n.side)) return 3;
        int last = n.last[post];
        if (last != NONE && Math.abs(k.persons.get(last)[1] - k.persons.get(person)[1]) > k.posts.get(post)[1]) return 4;
        int looks = k.posts.get(post)[2];
        List<Integer> seen = new ArrayList<>(n.stamps.subList(Math.max(0, n.stamps.size() - looks), n.stamps.size()));
        seen.add(n.side);
        for (int i = 1; i < seen.size(); i++) if (seen.get(i) % 10 == seen.get(i - 1) % 10) return 5;
        return 0;
    }

    static Now crossed(Kin k, Now n, int person, int child, int post) {
        Now m = n.copy();
        m.stamps.add(10 * post + n.side);
        m.over ^= 1 << person;
        if (child != NONE) m.over ^= 1 << child;
        m.side = 1 - n.side;
        m.days++;
        m.risk += k.risk(person, post);
        for (int q = 0; q < k.posts.size(); q++) if (q == post || k.compare == 1) m.last[q] = person;
        return m;
    }

    static Now sent(Kin k, Now n) {
        Now m = n.copy();
        m.side = 1 - n.side;
        m.days += k.loaf;
        return m;
    }

    /** What comes of an act; null if it can't be. */
    static Now done(Kin k, Now n, int act) {
        if (act == 200) return sent(k, n);
        int person = act % 10, child = act / 10 % 10 - 1, post = act / 100;
        return why(k, n, person, child, post) == 0 ? crossed(k, n, person, child, post) : null;
    }

    static boolean isAct(Kin k, long number) {
        if (number == 200) return true;
        for (int q = 0; q < k.posts.size(); q++) {
            for (int c = -1; c < k.persons.size(); c++) {
                for (int p = 0; p < k.persons.size(); p++) {
                    if (number == 100 * q + 10 * c + 10 + p) return true;
                }
            }
        }
        return false;
    }

    static List<Integer> can(Kin k, Now n) {
        List<Integer> acts = new ArrayList<>();
        for (int act = 0; act <= 200; act++) if (isAct(k, act) && done(k, n, act) != null) acts.add(act);
        return acts;
    }

    /** A row of acts from now on, with what it costs: first, then second. */
    static final class Way {
        Now at;
        List<Integer> acts = new ArrayList<>();
        long first, second;
    }

    static int compare(Way a, Way b) {
        if (a.first != b.first) return Long.compare(a.first, b.first);
        if (a.second != b.second) return Long.compare(a.second, b.second);
        for (int i = 0; i < a.acts.size() && i < b.acts.size(); i++) {
            int c = Integer.compare(a.acts.get(i), b.acts.get(i));
            if (c != 0) return c;
        }
        return Integer.compare(a.acts.size(), b.acts.size());
    }

    /** kind 0: days; 1: risk, then days; 2: crossings, then acts. The best way to where it holds; null if none. */
    static Way best(Kin k, Now from, int kind, Predicate<Now> goal) {
        PriorityQueue<Way> open = new PriorityQueue<>(Oracle::compare);
        Set<String> closed = new HashSet<>();
        Way start = new Way();
        start.at = from;
        open.add(start);
        while (!open.isEmpty()) {
            Way w = open.poll();
            if (!closed.add(w.at.state())) continue;
            if (goal.test(w.at)) return w;
            for (int act : can(k, w.at)) {
                Way v = new Way();
                v.at = done(k, w.at, act);
                if (closed.contains(v.at.state())) continue;
                v.acts.addAll(w.acts);
                v.acts.add(act);
                int days = act == 200 ? k.loaf : 1;
                int risk = act == 200 ? 0 : k.risk(act % 10, act / 100);
                v.first = w.first + (kind == 0 ? days : kind == 1 ? risk : act == 200 ? 0 : 1);
                v.second = w.second + (kind == 0 ? 0 : kind == 1 ? days : 1);
                open.add(v);
            }
        }
        return null;
    }

    /** The fewest days to each set of those over. */
    static int[] soonest(Kin k, Now from) {
        int[] days = new int[64];
        Arrays.fill(days, NONE);
        PriorityQueue<Now> open = new PriorityQueue<>((a, b) -> Integer.compare(a.days, b.days));
        Set<String> closed = new HashSet<>();
        open.add(from);
        while (!open.isEmpty()) {
            Now n = open.poll();
            if (!closed.add(n.state())) continue;
            if (days[n.over] == NONE) days[n.over] = n.days - from.days;
            for (int act : can(k, n)) open.add(done(k, n, act));
        }
        return days;
    }

    static Map<String, Now> reach(Kin k, Now from) {
        Map<String, Now> all = new HashMap<>();
        ArrayDeque<Now> open = new ArrayDeque<>();
        open.add(from);
        all.put(from.state(), from);
        while (!open.isEmpty()) {
            Now n = open.poll();
            for (int act : can(k, n)) {
                Now m = done(k, n, act);
                if (all.putIfAbsent(m.state(), m) == null) open.add(m);
            }
        }
        return all;
    }

    // ---- the object ----

    byte[] tape = new byte[0];
    int fault = 0, place = NONE;
    Kin kin = new Kin();
    List<Integer> acts = new ArrayList<>();
    Object[] numbers = new Object[4];
    Kin[] imageKin = new Kin[3];
    List<List<Integer>> imageActs = new ArrayList<>(Arrays.asList(null, null, null));

    boolean told() { return kin.lines > 0; }
    boolean isPerson(int p) { return p >= 0 && p < kin.persons.size(); }
    boolean isPost(int q) { return q >= 0 && q < kin.posts.size(); }
    static boolean in(int x, int least, int most) { return x >= least && x <= most; }

    Now nowOf(List<Integer> row) {
        Now n = new Now();
        for (int act : row) n = done(kin, n, act);
        return n;
    }

    Now now() { return nowOf(acts); }

    Way way(int kind) { return best(kin, now(), kind, n -> kin.isEnd(n.over)); }

    int feed(int a, int b, int c, int d, int e) {
        if (tape.length > 580) return NONE;
        int[] all = {a, b, c, d, e};
        byte[] longer = Arrays.copyOf(tape, tape.length + 20);
        for (int i = 0; i < 20; i++) longer[tape.length + i] = (byte) (all[i / 4] >> 8 * (3 - i % 4));
        tape = longer;
        return tape.length;
    }

    int end(int n) {
        if (!in(n, 0, tape.length)) return NONE;
        tape = Arrays.copyOf(tape, n);
        return n;
    }

    int family() {
        Telling t = new Telling(tape);
        tape = new byte[0];
        fault = t.fault;
        place = t.place;
        if (fault != 0) return -4;
        kin = t.kin;
        acts.clear();
        return kin.lines;
    }

    int fault(int what) { return what == 0 ? fault : what == 1 ? place : NONE; }

    int person(int person, int what) {
        if (!isPerson(person) || !in(what, 0, 4)) return -2;
        return what < 4 ? kin.persons.get(person)[what] : now().over >> person & 1;
    }

    int post(int post, int what) {
        if (!isPost(post) || !in(what, 0, 3)) return -2;
        return what < 3 ? kin.posts.get(post)[what] : now().last[post];
    }

    int risk(int person, int post) { return isPerson(person) && isPost(post) ? kin.risk(person, post) : -2; }

    int after(int person, int post) {
        if (!isPost(post) || person != NONE && !isPerson(person)) return -2;
        int bits = 0;
        for (int p = 0; p < kin.persons.size(); p++) {
            int[] one = kin.persons.get(p);
            boolean fits = person == NONE || Math.abs(one[1] - kin.persons.get(person)[1]) <= kin.posts.get(post)[1];
            if (one[2] == 0 && fits) bits |= 1 << p;
        }
        return bits;
    }

    int now(int what) {
        if (!told() || !in(what, 0, 4)) return -2;
        Now n = now();
        return new int[] {n.over, n.side, n.days, n.stamps.size(), n.risk}[what];
    }

    int stamp(int i) {
        if (!told()) return -2;
        return in(i, 0, now().stamps.size() - 1) ? now().stamps.get(i) : NONE;
    }

    int lies() { return told() ? now().lies() : -2; }

    int why(int person, int child, int post) {
        if (!isPerson(person) || child != NONE && !isPerson(child) || !isPost(post)) return -2;
        return why(kin, now(), person, child, post);
    }

    int cross(int person, int child, int post) {
        int why = why(person, child, post);
        if (why == -2) return -2;
        if (why != 0 || acts.size() == 40) return -5;
        acts.add(100 * post + 10 * (child + 1) + person);
        return now().days;
    }

    int loaf() {
        if (!told()) return -2;
        if (acts.size() == 40) return -5;
        acts.add(200);
        return now().days;
    }

    int undo() {
        if (!told()) return -2;
        if (acts.isEmpty()) return -5;
        acts.remove(acts.size() - 1);
        return acts.size();
    }

    int anew() {
        if (!told()) return -2;
        int n = acts.size();
        acts.clear();
        return n;
    }

    int at(List<Integer> row, int i) { return row != null && in(i, 0, row.size() - 1) ? row.get(i) : NONE; }

    int act(int i) { return told() ? at(acts, i) : -2; }
    int acts() { return told() ? can(kin, now()).size() : -2; }
    int may(int i) { return told() ? at(can(kin, now()), i) : -2; }

    int of(int kind, ToIntFunction<Way> what) {
        if (!told()) return -2;
        Way w = way(kind);
        return w == null ? NONE : what.applyAsInt(w);
    }

    int days() { return of(0, w -> (int) w.first); }
    int plan(int i) { return of(0, w -> at(w.acts, i)); }
    int surest() { return of(1, w -> (int) w.first); }
    int surely(int i) { return of(1, w -> at(w.acts, i)); }
    int slowly() { return of(1, w -> (int) w.second); }
    int crossings() { return of(2, w -> (int) w.first); }
    int moves() { return of(2, w -> (int) w.second); }

    long chance(int what) {
        if (!told() || !in(what, 0, 1)) return -2;
        Way w = way(1);
        if (w == null) return NONE;
        BigInteger above = BigInteger.ONE, below = BigInteger.ONE;
        int crossings = 0;
        for (int act : w.acts) {
            if (act == 200) continue;
            crossings++;
            above = above.multiply(BigInteger.valueOf(100 - kin.risk(act % 10, act / 100)));
            below = below.multiply(BigInteger.valueOf(100));
        }
        if (crossings > 9) return NONE;
        BigInteger g = above.gcd(below);
        return (what == 0 ? above : below).divide(g).longValueExact();
    }

    int states() { return told() ? reach(kin, new Now()).size() : -2; }

    int hopeful() {
        if (!told()) return -2;
        int n = 0;
        for (Now from : reach(kin, new Now()).values()) if (comes(kin, from)) n++;
        return n;
    }

    boolean comes(Kin k, Now from) {
        for (Now m : reach(k, from).values()) if (k.isEnd(m.over)) return true;
        return false;
    }

    int till(int set) {
        if (!told() || !in(set, 0, (1 << kin.persons.size()) - 1)) return -2;
        return soonest(kin, now())[set];
    }

    int over(int person) {
        if (!isPerson(person)) return -2;
        int best = NONE;
        int[] days = soonest(kin, now());
        for (int set = 0; set < 64; set++) {
            if ((set >> person & 1) == 1 && days[set] != NONE && (best == NONE || days[set] < best)) best = days[set];
        }
        return best;
    }

    int never() {
        if (!told()) return -2;
        int bits = (1 << kin.persons.size()) - 1;
        for (Now n : reach(kin, now()).values()) bits &= ~n.over;
        return bits;
    }

    Now along(List<Integer> row, int n) {
        Now at = now();
        for (int i = 0; i < n; i++) at = done(kin, at, row.get(i));
        return at;
    }

    int lost(int n) {
        if (!told() || n < 0) return -2;
        return of(0, w -> n > w.acts.size() ? NONE : along(w.acts, n).over);
    }

    int worst() {
        return of(0, w -> {
            int best = -1, where = 0;
            for (int n = 0; n <= w.acts.size(); n++) {
                int over = along(w.acts, n).over, wrong = 0;
                for (int p = 0; p < kin.persons.size(); p++) {
                    if ((over >> p & 1) == kin.persons.get(p)[3]) wrong++;
                }
                if (wrong > best) {
                    best = wrong;
                    where = n;
                }
            }
            return where;
        });
    }

    // ---- rows ----

    long[] numbersOf(int slot) {
        Object row = numbers[slot];
        if (row instanceof byte[] b) {
            long[] all = new long[b.length];
            for (int i = 0; i < b.length; i++) all[i] = b[i];
            return all;
        }
        if (row instanceof short[] b) {
            long[] all = new long[b.length];
            for (int i = 0; i < b.length; i++) all[i] = b[i];
            return all;
        }
        if (row instanceof int[] b) {
            long[] all = new long[b.length];
            for (int i = 0; i < b.length; i++) all[i] = b[i];
            return all;
        }
        return ((long[]) row).clone();
    }

    long judged(int slot, ToIntFunction<List<Integer>> what) {
        if (!in(slot, 0, 3) || !told()) return -2;
        if (numbers[slot] == null) return -6;
        for (long number : numbersOf(slot)) if (!isAct(kin, number)) return -2;
        List<Integer> row = new ArrayList<>();
        Now n = new Now();
        for (long number : numbersOf(slot)) {
            n = done(kin, n, (int) number);
            if (n == null) break;
            row.add((int) number);
        }
        return what.applyAsInt(row);
    }

    int judge(int slot) { return (int) judged(slot, List::size); }
    int there(int slot) { return (int) judged(slot, row -> nowOf(row).over); }
    int takes(int slot) { return (int) judged(slot, row -> nowOf(row).days); }
    int dares(int slot) { return (int) judged(slot, row -> nowOf(row).risk); }
    int lied(int slot) { return (int) judged(slot, row -> nowOf(row).lies()); }

    /** One row of crossings that gives the stamps. */
    record Trip(List<Integer> who, int over, int risk) { }

    List<Trip> trips(long[] row) {
        List<Trip> all = new ArrayList<>();
        go(row, 0, new Now(), new ArrayList<>(), all);
        return all;
    }

    private void go(long[] row, int i, Now n, List<Integer> who, List<Trip> all) {
        if (i == row.length) {
            all.add(new Trip(new ArrayList<>(who), n.over, n.risk));
            return;
        }
        Now from = n.side == row[i] % 10 ? n : sent(kin, n);
        for (int act : can(kin, from)) {
            if (act == 200 || act / 100 != row[i] / 10) continue;
            who.add(act % 10);
            go(row, i + 1, done(kin, from, act), who, all);
            who.remove(who.size() - 1);
        }
    }

    int refused(int slot, boolean args) {
        if (!in(slot, 0, 3) || !told() || !args) return -2;
        if (numbers[slot] == null) return -6;
        if (numbersOf(slot).length > 12) return -2;
        for (long v : numbersOf(slot)) if (v < 0 || v % 10 > 1 || v / 10 >= kin.posts.size()) return -2;
        return 0;
    }

    long stamped(int slot) {
        int refused = refused(slot, true);
        return refused != 0 ? refused : trips(numbersOf(slot)).size();
    }

    int had(int slot, int i) {
        int refused = refused(slot, i >= 0);
        if (refused != 0) return refused;
        int bits = 0;
        for (Trip t : trips(numbersOf(slot))) if (i < t.who().size()) bits |= 1 << t.who().get(i);
        return bits;
    }

    int sure(int slot, int what) {
        int refused = refused(slot, in(what, 0, 1));
        if (refused != 0) return refused;
        List<Trip> trips = trips(numbersOf(slot));
        if (trips.isEmpty()) return 0;
        int all = 63, some = 0;
        for (Trip t : trips) {
            all &= t.over();
            some |= t.over();
        }
        return what == 0 ? all : some;
    }

    int dared(int slot) {
        int refused = refused(slot, true);
        if (refused != 0) return refused;
        int least = NONE;
        for (Trip t : trips(numbersOf(slot))) if (least == NONE || t.risk() < least) least = t.risk();
        return least;
    }

    int alone(int post, int n) {
        if (!isPost(post) || !in(n, 0, 12)) return -2;
        return n < 2 ? 0 : kin.posts.get(post)[2] > 0 ? NONE : n - 1;
    }

    // ---- changes ----

    int worth(int person, int n) {
        if (!isPerson(person) || !in(n, 0, 100)) return -2;
        return of(1, w -> {
            Kin other = kin.copy();
            other.persons.get(person)[0] = Math.min(100, other.persons.get(person)[0] + n);
            Way v = best(other, now(), 1, m -> other.isEnd(m.over));
            return (int) (w.first - v.first);
        });
    }

    int whom(int n) {
        if (!told() || !in(n, 0, 100)) return -2;
        int who = NONE, most = 0;
        for (int p = 0; p < kin.persons.size(); p++) {
            int worth = worth(p, n);
            if (worth > most) {
                most = worth;
                who = p;
            }
        }
        return who;
    }

    int blur(int post) {
        if (!isPost(post)) return -2;
        for (int keen = 0; keen < 10; keen++) {
            Kin other = kin.copy();
            other.posts.get(post)[1] = keen;
            if (comes(other, now())) return keen;
        }
        return NONE;
    }

    int looks(int post) {
        if (!isPost(post)) return -2;
        for (int looks = 3; looks >= 0; looks--) {
            Kin other = kin.copy();
            other.posts.get(post)[2] = looks;
            if (comes(other, now())) return looks;
        }
        return NONE;
    }

    int[] trip(Way w, long seed) {
        BigInteger x = BigInteger.valueOf(seed);
        Now at = now();
        for (int i = 0; i < w.acts.size(); i++) {
            int act = w.acts.get(i);
            if (act != 200) {
                x = x.multiply(BigInteger.valueOf(1103515245)).add(BigInteger.valueOf(12345)).mod(BigInteger.TWO.pow(31));
                if (x.longValueExact() / 65536 % 100 < kin.risk(act % 10, act / 100)) return new int[] {i, at.over};
            }
            at = done(kin, at, act);
        }
        return new int[] {NONE, at.over};
    }

    int drawn(int seed, int what) {
        if (!told() || !in(seed, 0, 2000000000) || !in(what, 0, 1)) return -2;
        Way w = way(1);
        return w == null ? -2 : trip(w, seed)[what];
    }

    int luck(int seed, int n) {
        if (!told() || !in(seed, 0, 2000000000) || !in(n, 1, 20)) return -2;
        Way w = way(1);
        if (w == null) return -2;
        int lucky = 0;
        for (int i = 0; i < n; i++) if (trip(w, (long) seed + i)[0] == NONE) lucky++;
        return lucky;
    }

    static int set(int[] of, int i, int v) {
        int was = of[i];
        of[i] = v;
        return was;
    }

    int grow(int person, int like) { return isPerson(person) && in(like, 0, 100) ? set(kin.persons.get(person), 0, like) : -2; }
    int guard(int post, int strict) { return isPost(post) && in(strict, 0, 100) ? set(kin.posts.get(post), 0, strict) : -2; }
    int stay(int person, int is) { return isPerson(person) && in(is, 0, 1) ? set(kin.persons.get(person), 3, is) : -2; }

    int count(int what) {
        int children = 0, stay = 0, rows = 0;
        for (int[] p : kin.persons) {
            children += p[2];
            stay += p[3];
        }
        for (Object row : numbers) if (row != null) rows++;
        int[] all = {kin.persons.size(), kin.posts.size(), kin.loaf, children, stay, kin.compare, acts.size(), kin.lines,
            tape.length, rows};
        return in(what, 0, 9) ? all[what] : NONE;
    }

    int image(int k) {
        if (!in(k, 0, 2)) return -2;
        imageKin[k] = kin.copy();
        imageActs.set(k, new ArrayList<>(acts));
        return 0;
    }

    int back(int k) {
        if (!in(k, 0, 2)) return -2;
        if (imageKin[k] == null) return -6;
        kin = imageKin[k].copy();
        acts = new ArrayList<>(imageActs.get(k));
        return 0;
    }

    int row(int slot, int width, int n) {
        if (!in(slot, 0, 3) || !in(width, 0, 3) || n > 60) return -2;
        if (n < 0) return -3;
        numbers[slot] = width == 0 ? new byte[n] : width == 1 ? new short[n] : width == 2 ? (Object) new int[n] : new long[n];
        return 0;
    }

    int write(int slot, int i, long v) {
        if (!in(slot, 0, 3)) return -2;
        Object row = numbers[slot];
        if (row == null) return -6;
        if (!in(i, 0, numbersOf(slot).length - 1)) return -7;
        if (row instanceof byte[] b) b[i] = (byte) v;
        if (row instanceof short[] b) b[i] = (short) v;
        if (row instanceof int[] b) b[i] = (int) v;
        if (row instanceof long[] b) b[i] = v;
        return 0;
    }

    int paste(int slot, int i, int to, int k, int n) {
        if (!in(slot, 0, 3) || !in(to, 0, 3)) return -2;
        if (numbers[slot] == null || numbers[to] == null) return -6;
        if (numbers[slot].getClass() != numbers[to].getClass()) return -8;
        try {
            System.arraycopy(numbers[slot], i, numbers[to], k, n);
        } catch (IndexOutOfBoundsException e) {
            return -7;
        }
        return 0;
    }
}
