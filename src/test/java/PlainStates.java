import java.util.Arrays;
import java.util.HashMap;
import java.util.Map;
import java.util.PriorityQueue;

/** A family's whole states, as the document tells them: no two are taken as one, all are found from one on. */
final class PlainStates {
    static final At HERE = new At(0, 0, -1, -1, "");
    static final long NEVER = Long.MAX_VALUE;

    private static final int MOST = 100_000;
    private static final int MOST_ACTS = 40;
    private static final int FIRST = 1_000_000;

    /** Who is over, the passport's side, who is remembered (-1: nobody), the latest stamps, the last one at the end. */
    record At(int over, int side, int first, int second, String stamps) { }

    int loaf;
    boolean compare;
    /** like, nose, child, stays */
    int[][] person;
    /** strict, keen, looks */
    int[][] post;

    At[] state;
    int[][] act;
    int[][] to;
    int size;
    private Map<At, Integer> number;

    PlainStates(int loaf, boolean compare, int[][] person, int[][] post) {
        this.loaf = loaf;
        this.compare = compare;
        this.person = person;
        this.post = post;
    }

    String text() {
        StringBuilder s = new StringBuilder("family loaf " + loaf + (compare ? " compare;" : ";"));
        for (int[] p : person) {
            s.append("person like ").append(p[0]).append(" nose ").append(p[1]).append(p[2] == 1 ? " child" : "")
                .append(p[3] == 1 ? " stays;" : ";");
        }
        for (int[] q : post) {
            s.append("post strict ").append(q[0]).append(" keen ").append(q[1]).append(" looks ").append(q[2]).append(';');
        }
        return s.toString();
    }

    int why(At at, int who, int with, int where) {
        if ((at.over() >> who & 1) != at.side()) return 1;
        if (person[who][2] == 1) return 2;
        if (with >= 0 && person[with][2] == 0) return 3;
        if (with >= 0 && (at.over() >> with & 1) != at.side()) return 3;
        int last = where == 0 ? at.first() : at.second();
        if (last >= 0 && last != who && Math.abs(person[last][1] - person[who][1]) > post[where][1]) return 4;
        String all = at.stamps() + at.side();
        int from = Math.max(0, all.length() - 1 - post[where][2]);
        String seen = all.substring(from);
        return seen.contains("00") || seen.contains("11") ? 5 : 0;
    }

    At sent(At at) {
        return new At(at.over(), 1 - at.side(), at.first(), at.second(), at.stamps());
    }

    /** The state behind an act; null if it can't be. */
    At done(At at, int number) {
        if (number == 200) return sent(at);
        int who = number % 10, with = number % 100 / 10 - 1, where = number / 100;
        if (why(at, who, with, where) != 0) return null;
        int over = at.over() ^ 1 << who ^ (with >= 0 ? 1 << with : 0);
        String stamps = at.stamps() + at.side();
        int first = where == 0 || compare ? who : at.first();
        int second = post.length == 2 && (where == 1 || compare) ? who : at.second();
        return new At(over, 1 - at.side(), first, second, stamps.length() > 3 ? stamps.substring(1) : stamps);
    }

    int risk(int number) {
        return number == 200 ? 0 : (100 - person[number % 10][0]) * post[number / 100][0] / 100;
    }

    int days(int number) {
        return number == 200 ? loaf : 1;
    }

    int goal() {
        int bits = 0;
        for (int p = 0; p < person.length; p++) bits |= 1 - person[p][3] << p;
        return bits;
    }

    /** Finds all states from one on, each with its acts. */
    void find(At from) {
        number = new HashMap<>();
        state = new At[MOST];
        act = new int[MOST][];
        to = new int[MOST][];
        size = 0;
        numberOf(from);
        for (int i = 0; i < size; i++) {
            int[] acts = new int[MOST_ACTS];
            int[] behind = new int[MOST_ACTS];
            int n = 0;
            for (int a = 0; a <= 200; a++) {
                if (!isAct(a)) continue;
                At next = done(state[i], a);
                if (next == null) continue;
                acts[n] = a;
                behind[n++] = numberOf(next);
            }
            act[i] = Arrays.copyOf(acts, n);
            to[i] = Arrays.copyOf(behind, n);
        }
    }

    private boolean isAct(int a) {
        return a == 200 || a / 100 < post.length && a % 10 < person.length && a % 100 / 10 <= person.length;
    }

    int numberOf(At at) {
        Integer known = number.get(at);
        if (known != null) return known;
        number.put(at, size);
        state[size] = at;
        return size++;
    }

    /** What is counted first (FIRST each) and then: 0 days, 1 risk and days, 2 crossings and acts. */
    private long weight(int kind, int a) {
        switch (kind) {
            case 0: return (long) FIRST * days(a);
            case 1: return (long) FIRST * risk(a) + days(a);
            default: return a == 200 ? 1 : FIRST + 1;
        }
    }

    static long first(long cost) {
        return cost == NEVER ? -1 : cost / FIRST;
    }

    static long then(long cost) {
        return cost == NEVER ? -1 : cost % FIRST;
    }

    /** The least cost from each state to one in which just a set is over, found from those back. */
    long[] costs(int kind, int goal) {
        int[] begins = new int[size + 1];
        for (int i = 0; i < size; i++) for (int j : to[i]) begins[j + 1]++;
        for (int i = 0; i < size; i++) begins[i + 1] += begins[i];
        int[] from = new int[begins[size]];
        int[] by = new int[begins[size]];
        int[] filled = begins.clone();
        for (int i = 0; i < size; i++) {
            for (int k = 0; k < to[i].length; k++) {
                int e = filled[to[i][k]]++;
                from[e] = i;
                by[e] = act[i][k];
            }
        }
        long[] cost = new long[size];
        Arrays.fill(cost, NEVER);
        PriorityQueue<long[]> open = new PriorityQueue<>((a, b) -> Long.compare(a[0], b[0]));
        for (int i = 0; i < size; i++) {
            if (state[i].over() == goal) {
                cost[i] = 0;
                open.add(new long[] {0, i});
            }
        }
        while (!open.isEmpty()) {
            long[] top = open.poll();
            int i = (int) top[1];
            for (int e = begins[i]; e < begins[i + 1] && top[0] == cost[i]; e++) {
                long sum = cost[i] + weight(kind, by[e]);
                if (sum < cost[from[e]]) {
                    cost[from[e]] = sum;
                    open.add(new long[] {sum, from[e]});
                }
            }
        }
        return cost;
    }

    /** The least of the rows of least cost. */
    int[] row(long[] cost, int kind, int start) {
        int[] all = new int[1000];
        int n = 0;
        int at = start;
        while (cost[at] != 0) {
            int k = 0;
            while (cost[to[at][k]] == NEVER || cost[to[at][k]] + weight(kind, act[at][k]) != cost[at]) k++;
            all[n++] = act[at][k];
            at = to[at][k];
        }
        return Arrays.copyOf(all, n);
    }

    /** The fewest days from a state till just a set is over, for each set; -1: never. */
    int[] soonest(int start) {
        long[] cost = new long[size];
        Arrays.fill(cost, NEVER);
        int[] best = new int[64];
        Arrays.fill(best, -1);
        PriorityQueue<long[]> open = new PriorityQueue<>((a, b) -> Long.compare(a[0], b[0]));
        cost[start] = 0;
        open.add(new long[] {0, start});
        while (!open.isEmpty()) {
            long[] top = open.poll();
            int i = (int) top[1];
            if (top[0] != cost[i]) continue;
            if (best[state[i].over()] < 0) best[state[i].over()] = (int) top[0];
            for (int k = 0; k < to[i].length; k++) {
                long sum = cost[i] + days(act[i][k]);
                if (sum < cost[to[i][k]]) {
                    cost[to[i][k]] = sum;
                    open.add(new long[] {sum, to[i][k]});
                }
            }
        }
        return best;
    }
}
