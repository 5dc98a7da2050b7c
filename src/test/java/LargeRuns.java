import java.math.BigInteger;
import java.util.ArrayList;
import java.util.Arrays;
import java.util.HashMap;
import java.util.HashSet;
import java.util.List;
import java.util.Map;
import java.util.Random;
import java.util.Set;

/** Families of up to six persons, asked at many places behind acts, changes, faults and images, against PlainStates. */
public final class LargeRuns {
    private static int wrong = 0;
    private static int told = 0;

    public static void main(String[] args) {
        int from = args.length > 0 ? Integer.parseInt(args[0]) : 0;
        int runs = args.length > 1 ? Integer.parseInt(args[1]) : 24;
        for (int run = from; run < from + runs && wrong < 10; run++) new LargeRuns(run).go();
        System.out.println(told + " calls compared, " + wrong + " wrong");
        if (wrong != 0) System.exit(1);
    }

    private final int run;
    private final Random r;
    private final PlainStates s;
    private List<Integer> acts = new ArrayList<>();
    private int[][] keptPerson, keptPost;
    private List<Integer> keptActs;
    private long[][] cost;
    private OnePassport x;
    private int calls;

    private LargeRuns(int run) {
        this.run = run;
        r = new Random(7777L + run);
        s = draw();
    }

    private void is(String what, long got, long due) {
        calls++;
        told++;
        if (got == due) return;
        wrong++;
        System.out.println("run " + run + ": " + s.text() + " behind " + acts + ": " + what + " answered " + got + ", due is " + due);
    }

    /** The family of the most states that differ, of 20,000 drawn: six who cross, a post that looks far, one that doesn't. */
    private static PlainStates widest() {
        int[] nose = {2, 1, 9, 7, 4, 5};
        int[][] person = new int[6][];
        for (int p = 0; p < 6; p++) person[p] = new int[] {15 * p, nose[p], 0, p == 3 ? 1 : 0};
        return new PlainStates(2, false, person, new int[][] {{60, 3, 3}, {90, 5, 0}});
    }

    private PlainStates draw() {
        if (run == 0) return widest();
        int[][] person = new int[run % 3 == 0 ? 6 : run % 3 == 1 ? 5 : 3 + r.nextInt(4)][];
        int spread = 1 + r.nextInt(10);
        int children = r.nextInt(4);
        for (int p = 0; p < person.length; p++) {
            person[p] = new int[] {r.nextInt(5) == 0 ? 100 : r.nextInt(101), r.nextInt(spread), r.nextInt(6) < children ? 1 : 0,
                r.nextInt(5) == 0 ? 1 : 0};
        }
        int[][] post = new int[r.nextInt(5) == 0 ? 1 : 2][];
        for (int q = 0; q < post.length; q++) {
            post[q] = new int[] {r.nextInt(5) == 0 ? 0 : r.nextInt(101), r.nextInt(r.nextBoolean() ? 3 : 10), r.nextInt(4)};
        }
        return new PlainStates(1 + r.nextInt(r.nextBoolean() ? 9 : 3), r.nextInt(3) == 0, person, post);
    }

    private void go() {
        s.find(PlainStates.HERE);
        renew();
        for (int phase = 0; phase < 8 && wrong < 10; phase++) {
            if (calls > 250) renew();
            cost = new long[][] {s.costs(0, s.goal()), s.costs(1, s.goal()), s.costs(2, s.goal())};
            ask();
            act();
            change();
        }
        cost = new long[][] {s.costs(0, s.goal()), s.costs(1, s.goal()), s.costs(2, s.goal())};
        ask();
        renew();
        for (int k = 0; k < 8; k++) askStamps(stamps(k));
    }

    /** Another object that is where this one was: no more is promised of one than 512 calls. */
    private void renew() {
        x = Tell.told(s.text());
        calls = 40;
        keptActs = null;
        for (int a : acts) act(a);
    }

    private void act(int a) {
        calls++;
        if (a == 200) x.loaf();
        else x.cross(a % 10, a % 100 / 10 - 1, a / 100);
    }

    private PlainStates.At now() {
        PlainStates.At at = PlainStates.HERE;
        for (int a : acts) at = s.done(at, a);
        return at;
    }

    private void act() {
        if (acts.size() >= 36 || r.nextInt(8) == 0) {
            is("anew", x.anew(), acts.size());
            acts.clear();
        }
        for (int k = r.nextInt(5); k > 0; k--) {
            int[] can = s.act[s.numberOf(now())];
            acts.add(can[r.nextInt(can.length)]);
            act(acts.get(acts.size() - 1));
        }
        if (r.nextInt(6) == 0 && !acts.isEmpty()) {
            acts.remove(acts.size() - 1);
            is("undo", x.undo(), acts.size());
        }
    }

    private void change() {
        int p = r.nextInt(s.person.length);
        int q = r.nextInt(s.post.length);
        int v = r.nextInt(101);
        switch (r.nextInt(6)) {
            case 0:
                is("grow", x.grow(p, v), s.person[p][0]);
                s.person[p][0] = v;
                break;
            case 1:
                is("guard", x.guard(q, v), s.post[q][0]);
                s.post[q][0] = v;
                break;
            case 2:
                is("stay", x.stay(p, v % 2), s.person[p][3]);
                s.person[p][3] = v % 2;
                break;
            case 3:
                is("image", x.image(1), 0);
                keptPerson = copy(s.person);
                keptPost = copy(s.post);
                keptActs = new ArrayList<>(acts);
                break;
            case 4:
                is("back", x.back(1), keptActs == null ? -6 : 0);
                if (keptActs != null) {
                    s.person = copy(keptPerson);
                    s.post = copy(keptPost);
                    acts = new ArrayList<>(keptActs);
                }
                break;
            default:
                is("family", Tell.family(x, "family loaf 1;person like 50 nose 3;post strict 101"), -4);
                is("fault", x.fault(0), 2);
        }
    }

    private static int[][] copy(int[][] rows) {
        int[][] all = new int[rows.length][];
        for (int i = 0; i < all.length; i++) all[i] = rows[i].clone();
        return all;
    }

    private void ask() {
        PlainStates.At at = now();
        int i = s.numberOf(at);
        is("acts", x.acts(), s.act[i].length);
        int k = r.nextInt(s.act[i].length + 1);
        is("may " + k, x.may(k), k < s.act[i].length ? s.act[i][k] : -1);
        for (k = 0; k < 8; k++) {
            int p = r.nextInt(s.person.length);
            int c = r.nextInt(s.person.length + 1) - 1;
            int q = r.nextInt(s.post.length);
            is("why " + p + " " + c + " " + q, x.why(p, c, q), s.why(at, p, c, q));
        }
        is("over", x.now(0), at.over());
        is("side", x.now(1), at.side());
        is("states", x.states(), s.size);
        is("hopeful", x.hopeful(), Arrays.stream(cost[0]).filter(c -> c != PlainStates.NEVER).count());
        askDays(i);
        askRows(i);
        if (r.nextInt(3) == 0) askChanges(at, i);
    }

    private void askDays(int i) {
        int[] soonest = s.soonest(i);
        for (int k = 0; k < 8; k++) {
            int set = r.nextInt(1 << s.person.length);
            is("till " + set, x.till(set), soonest[set]);
        }
        int never = 0;
        for (int p = 0; p < s.person.length; p++) {
            int best = -1;
            for (int set = 0; set < 64; set++) {
                if ((set >> p & 1) == 1 && soonest[set] >= 0 && (best < 0 || soonest[set] < best)) best = soonest[set];
            }
            is("over " + p, x.over(p), best);
            if (best < 0) never |= 1 << p;
        }
        is("never", x.never(), never);
    }

    private void askRows(int i) {
        is("days", x.days(), PlainStates.first(cost[0][i]));
        is("surest", x.surest(), PlainStates.first(cost[1][i]));
        is("slowly", x.slowly(), PlainStates.then(cost[1][i]));
        is("crossings", x.crossings(), PlainStates.first(cost[2][i]));
        is("moves", x.moves(), PlainStates.then(cost[2][i]));
        if (cost[0][i] == PlainStates.NEVER) {
            is("plan", x.plan(0), -1);
            is("surely", x.surely(0), -1);
            is("lost", x.lost(0), -1);
            is("worst", x.worst(), -1);
            is("chance", x.chance(0), -1);
            is("drawn", x.drawn(5, 0), -2);
            is("luck", x.luck(5, 3), -2);
            is("whom", x.whom(40), -1);
            is("worth", x.worth(0, 40), -1);
            return;
        }
        askPlan(s.row(cost[0], 0, i), s.state[i]);
        int[] surely = s.row(cost[1], 1, i);
        askChance(surely);
        askTrips(surely, s.state[i]);
    }

    private void askPlan(int[] plan, PlainStates.At from) {
        PlainStates.At at = from;
        int worst = 0;
        int most = -1;
        for (int k = 0; k <= plan.length; k++) {
            int off = Integer.bitCount(at.over() ^ s.goal());
            if (off > most) {
                most = off;
                worst = k;
            }
            if (k < 12) {
                is("lost " + k, x.lost(k), at.over());
                is("plan " + k, x.plan(k), k < plan.length ? plan[k] : -1);
            }
            if (k < plan.length) at = s.done(at, plan[k]);
        }
        is("lost beyond", x.lost(plan.length + 1), -1);
        is("worst", x.worst(), worst);
    }

    private void askChance(int[] surely) {
        BigInteger above = BigInteger.ONE;
        BigInteger below = BigInteger.ONE;
        int crossings = 0;
        for (int k = 0; k <= surely.length; k++) {
            if (k < 12 || k == surely.length) is("surely " + k, x.surely(k), k < surely.length ? surely[k] : -1);
            if (k == surely.length || surely[k] == 200) continue;
            above = above.multiply(BigInteger.valueOf(100 - s.risk(surely[k])));
            below = below.multiply(BigInteger.valueOf(100));
            crossings++;
        }
        BigInteger common = above.gcd(below);
        is("chance above", x.chance(0), crossings > 9 ? -1 : above.divide(common).longValueExact());
        is("chance below", x.chance(1), crossings > 9 ? -1 : below.divide(common).longValueExact());
    }

    private void askTrips(int[] surely, PlainStates.At from) {
        int seed = r.nextInt(2_000_000_000 - 20);
        int lucky = 0;
        for (int k = 0; k < 20; k++) {
            int[] trip = trip(surely, seed + k, from);
            if (k < 4) is("drawn " + (seed + k), x.drawn(seed + k, 0), trip[0]);
            if (k < 4) is("over then " + (seed + k), x.drawn(seed + k, 1), trip[1]);
            if (trip[0] < 0) lucky++;
            if (k % 7 == 5) is("luck " + seed + " " + (k + 1), x.luck(seed, k + 1), lucky);
        }
    }

    private int[] trip(int[] surely, int seed, PlainStates.At from) {
        PlainStates.At at = from;
        BigInteger v = BigInteger.valueOf(seed);
        for (int k = 0; k < surely.length; k++) {
            if (surely[k] != 200) {
                v = v.multiply(BigInteger.valueOf(1103515245)).add(BigInteger.valueOf(12345)).mod(BigInteger.TWO.pow(31));
                if (v.shiftRight(16).intValueExact() % 100 < s.risk(surely[k])) return new int[] {k, at.over()};
            }
            at = s.done(at, surely[k]);
        }
        return new int[] {-1, at.over()};
    }

    private void askChanges(PlainStates.At at, int i) {
        int n = r.nextInt(101);
        int best = 0;
        int who = -1;
        for (int p = 0; p < s.person.length && cost[1][i] != PlainStates.NEVER; p++) {
            int was = s.person[p][0];
            s.person[p][0] = Math.min(100, was + n);
            long gain = PlainStates.first(cost[1][i]) - PlainStates.first(s.costs(1, s.goal())[i]);
            s.person[p][0] = was;
            is("worth " + p + " " + n, x.worth(p, n), gain);
            if (gain > best) {
                best = (int) gain;
                who = p;
            }
        }
        is("whom " + n, x.whom(n), who);
        for (int q = 0; q < s.post.length; q++) {
            int blur = 0;
            while (blur < 10 && !comes(at, q, 1, blur)) blur++;
            is("blur " + q, x.blur(q), blur < 10 ? blur : -1);
            int looks = 3;
            while (looks >= 0 && !comes(at, q, 2, looks)) looks--;
            is("looks " + q, x.looks(q), looks);
        }
    }

    private boolean comes(PlainStates.At at, int q, int what, int v) {
        int[][] post = copy(s.post);
        post[q][what] = v;
        PlainStates other = new PlainStates(s.loaf, s.compare, s.person, post);
        other.find(at);
        for (int i = 0; i < other.size; i++) if (other.state[i].over() == other.goal()) return true;
        return false;
    }

    /** A row of up to twelve stamps, which mostly turn: posts that look ask it. */
    private int[] stamps(int seldom) {
        int[] row = new int[r.nextInt(13)];
        int side = 0;
        for (int k = 0; k < row.length; k++) {
            row[k] = 10 * r.nextInt(s.post.length) + side;
            side = r.nextInt(10) < seldom ? r.nextInt(2) : 1 - side;
        }
        return row;
    }

    /** How many rows come to each state stamp by stamp, and the least risk; then from the end back, who can have had it. */
    private void askStamps(int[] row) {
        if (calls > 400) renew();
        Tell.lay(x, 2, row);
        calls += 13;
        List<Map<PlainStates.At, long[]>> layers = new ArrayList<>();
        layers.add(new HashMap<>(Map.of(PlainStates.HERE, new long[] {1, 0})));
        for (int stamp : row) layers.add(behind(layers.get(layers.size() - 1), stamp));
        long count = 0;
        long least = -1;
        int all = 63;
        int some = 0;
        for (Map.Entry<PlainStates.At, long[]> e : layers.get(row.length).entrySet()) {
            count += e.getValue()[0];
            if (least < 0 || e.getValue()[1] < least) least = e.getValue()[1];
            all &= e.getKey().over();
            some |= e.getKey().over();
        }
        String name = " " + Arrays.toString(row);
        is("stamped" + name, x.stamped(2), count);
        is("dared" + name, x.dared(2), least);
        is("sure in all" + name, x.sure(2, 0), count == 0 ? 0 : all);
        is("sure in some" + name, x.sure(2, 1), some);
        is("had beyond" + name, x.had(2, row.length), 0);
        Set<PlainStates.At> good = new HashSet<>(layers.get(row.length).keySet());
        for (int k = row.length - 1; k >= 0; k--) {
            Set<PlainStates.At> before = new HashSet<>();
            int had = 0;
            for (PlainStates.At at : layers.get(k).keySet()) {
                for (int a : actsOf(row[k])) {
                    PlainStates.At next = s.done(turned(at, row[k]), a);
                    if (next != null && good.contains(next)) {
                        had |= 1 << a % 10;
                        before.add(at);
                    }
                }
            }
            is("had " + k + name, x.had(2, k), had);
            good = before;
        }
    }

    private Map<PlainStates.At, long[]> behind(Map<PlainStates.At, long[]> layer, int stamp) {
        Map<PlainStates.At, long[]> next = new HashMap<>();
        for (Map.Entry<PlainStates.At, long[]> e : layer.entrySet()) {
            for (int a : actsOf(stamp)) {
                PlainStates.At at = s.done(turned(e.getKey(), stamp), a);
                if (at == null) continue;
                long[] sum = next.computeIfAbsent(at, none -> new long[] {0, Long.MAX_VALUE});
                sum[0] += e.getValue()[0];
                sum[1] = Math.min(sum[1], e.getValue()[1] + s.risk(a));
            }
        }
        return next;
    }

    private PlainStates.At turned(PlainStates.At at, int stamp) {
        return at.side() == stamp % 10 ? at : s.sent(at);
    }

    private int[] actsOf(int stamp) {
        int persons = s.person.length;
        int[] all = new int[persons * (persons + 1)];
        for (int k = 0; k < all.length; k++) all[k] = stamp / 10 * 100 + k / persons * 10 + k % persons;
        return all;
    }
}
