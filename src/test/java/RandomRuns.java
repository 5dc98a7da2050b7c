import java.nio.charset.StandardCharsets;
import java.util.Random;

/** Runs of calls drawn from fixed seeds, on the class and on the oracle: every answer must be the same. */
public final class RandomRuns {
    private static int wrong = 0;
    private static int told = 0;

    public static void main(String[] args) {
        int from = args.length > 0 ? Integer.parseInt(args[0]) : 0;
        int runs = args.length > 1 ? Integer.parseInt(args[1]) : 240;
        for (int run = from; run < from + runs && wrong < 20; run++) new RandomRuns(run).go();
        System.out.println(told + " calls compared, " + wrong + " wrong");
        if (wrong != 0) System.exit(1);
    }

    private final Random r;
    private final int run;
    private final OnePassport x = new OnePassport();
    private final Oracle o = new Oracle();
    private final StringBuilder log = new StringBuilder();
    private int calls = 0;
    private int most;

    private RandomRuns(int run) {
        this.run = run;
        r = new Random(run);
        most = run % 40 == 0 ? 6 : run % 10 == 0 ? 5 : run % 2 == 0 ? 3 : 4;
    }

    private boolean is(String call, long got, long due) {
        calls++;
        told++;
        log.append(call).append(" = ").append(got).append('\n');
        if (got == due) return true;
        wrong++;
        System.out.println("run " + run + ":\n" + log + "due is " + due + "\n");
        return false;
    }

    private void go() {
        if (!tell()) return;
        while (calls < 480) {
            if (r.nextInt(60) == 0) {
                if (!tell()) return;
            } else if (r.nextInt(8) == 0) {
                if (!lay()) return;
            } else if (!one()) return;
        }
    }

    /** Feeds a family, mostly a good one. */
    private boolean tell() {
        String text = text();
        int kind = r.nextInt(6);
        if (kind == 0) {
            int at = r.nextInt(text.length() + 1);
            String[] bits = {" ", "\n", ";", "a", "7", "child", " stays ", "post", " person", "family", "A", "\t", "\u00e9", "-", "99", " 101"};
            text = text.substring(0, at) + bits[r.nextInt(bits.length)] + text.substring(Math.min(text.length(), at + r.nextInt(3)));
        } else if (kind == 1) {
            text = text.substring(0, r.nextInt(text.length() + 1));
        }
        byte[] bytes = text.getBytes(StandardCharsets.ISO_8859_1);
        int at = x.count(8);
        for (int i = 0; i < bytes.length; i += 20) {
            int[] w = new int[5];
            for (int j = 0; j < 20; j++) w[j / 4] = w[j / 4] << 8 | (i + j < bytes.length ? bytes[i + j] & 255 : 32);
            if (!is("feed", x.feed(w[0], w[1], w[2], w[3], w[4]), o.feed(w[0], w[1], w[2], w[3], w[4]))) return false;
        }
        int n = at + bytes.length;
        log.append(text).append('\n');
        return is("end(" + n + ")", x.end(n), o.end(n)) && is("family()", x.family(), o.family())
            && is("fault(0)", x.fault(0), o.fault(0)) && is("fault(1)", x.fault(1), o.fault(1));
    }

    private String text() {
        StringBuilder s = new StringBuilder("family loaf " + (1 + r.nextInt(r.nextBoolean() ? 3 : 9)));
        if (r.nextInt(3) == 0) s.append(" compare");
        s.append(';');
        int persons = r.nextInt(8) == 0 ? r.nextInt(most + 1) : most;
        int posts = r.nextInt(8) == 0 ? 0 : 1 + r.nextInt(2);
        int spread = 1 + r.nextInt(10);
        int looks = r.nextInt(4);
        for (int i = 0; i < persons + posts; i++) {
            if (i < posts) {
                s.append("post strict ").append(r.nextInt(101)).append(" keen ").append(r.nextInt(r.nextBoolean() ? 4 : 10))
                    .append(" looks ").append(r.nextInt(looks + 1)).append(";\n");
            } else {
                s.append("person like ").append(r.nextInt(4) == 0 ? 100 : r.nextInt(101)).append(" nose ").append(r.nextInt(spread));
                if (r.nextInt(4) == 0) s.append(" stays");
                if (r.nextInt(3) == 0) s.append(" child");
                s.append(r.nextBoolean() ? "; " : ";");
            }
        }
        return s.toString();
    }

    /** Lays a row of acts or of stamps that may well come about. */
    private boolean lay() {
        int slot = r.nextInt(4);
        boolean stamps = r.nextBoolean();
        int n = r.nextInt(stamps ? 5 : 12);
        if (r.nextInt(30) == 0) n = 13;
        int width = stamps ? r.nextInt(4) : r.nextInt(8) == 0 ? 0 : 1 + r.nextInt(3);
        if (!is("row(" + slot + ", " + width + ", " + n + ")", x.row(slot, width, n), o.row(slot, width, n))) return false;
        Oracle.Now now = new Oracle.Now();
        for (int i = 0; i < n; i++) {
            long v;
            if (stamps) {
                v = 10 * r.nextInt(Math.max(1, o.kin.posts.size())) + r.nextInt(2);
                if (r.nextInt(40) == 0) v = r.nextInt(14) - 1;
            } else {
                v = 200;
                if (now != null && o.told()) {
                    java.util.List<Integer> can = Oracle.can(o.kin, now);
                    v = can.get(r.nextInt(can.size()));
                }
                if (r.nextInt(25) == 0) v = 100 * r.nextInt(2) + 10 * r.nextInt(6) + r.nextInt(6);
                if (r.nextInt(60) == 0) v = r.nextInt(300) - 20;
                now = now != null && Oracle.isAct(o.kin, v) ? Oracle.done(o.kin, now, (int) v) : null;
            }
            if (!is("write(" + slot + ", " + i + ", " + v + ")", x.write(slot, i, v), o.write(slot, i, v))) return false;
        }
        int k = r.nextInt(6) - 1;
        int what = r.nextInt(2);
        if (stamps) {
            return is("stamped(" + slot + ")", x.stamped(slot), o.stamped(slot))
                && is("had(" + slot + ", " + k + ")", x.had(slot, k), o.had(slot, k))
                && is("sure(" + slot + ", " + what + ")", x.sure(slot, what), o.sure(slot, what))
                && is("dared(" + slot + ")", x.dared(slot), o.dared(slot));
        }
        return is("judge(" + slot + ")", x.judge(slot), o.judge(slot)) && is("there(" + slot + ")", x.there(slot), o.there(slot))
            && is("takes(" + slot + ")", x.takes(slot), o.takes(slot)) && is("dares(" + slot + ")", x.dares(slot), o.dares(slot))
            && is("lied(" + slot + ")", x.lied(slot), o.lied(slot));
    }

    /** A number from 0 on, now and then one outside. */
    private int any(int below) {
        int k = r.nextInt(24);
        if (k == 0) return -1;
        if (k == 1) return below;
        if (k == 2) return r.nextInt(4) == 0 ? r.nextInt() : below + r.nextInt(5);
        return r.nextInt(Math.max(1, below));
    }

    private boolean one() {
        int p = any(o.kin.persons.size()), q = any(o.kin.posts.size());
        int c = r.nextInt(3) > 0 ? -1 : any(o.kin.persons.size());
        int s = any(4), i = any(8), k = any(3), n = any(9);
        boolean dear = o.kin.persons.size() > 4;
        switch (r.nextInt(dear ? 34 : 54)) {
            case 0: case 1: return someAct();
            case 2: return is("cross(" + p + ", " + c + ", " + q + ")", x.cross(p, c, q), o.cross(p, c, q));
            case 3: return is("why(" + p + ", " + c + ", " + q + ")", x.why(p, c, q), o.why(p, c, q));
            case 4: return r.nextInt(3) > 0 || is("loaf()", x.loaf(), o.loaf());
            case 5: return is("undo()", x.undo(), o.undo());
            case 6: return r.nextInt(4) > 0 || is("anew()", x.anew(), o.anew());
            case 7: return is("act(" + i + ")", x.act(i), o.act(i));
            case 8: return is("acts()", x.acts(), o.acts());
            case 9: return is("may(" + i + ")", x.may(i), o.may(i));
            case 10: return is("person(" + p + ", " + n + ")", x.person(p, n), o.person(p, n));
            case 11: return is("post(" + q + ", " + n + ")", x.post(q, n), o.post(q, n));
            case 12: return is("risk(" + p + ", " + q + ")", x.risk(p, q), o.risk(p, q));
            case 13: return is("after(" + p + ", " + q + ")", x.after(p, q), o.after(p, q));
            case 14: return is("now(" + n + ")", x.now(n), o.now(n));
            case 15: return is("stamp(" + i + ")", x.stamp(i), o.stamp(i));
            case 16: return is("lies()", x.lies(), o.lies());
            case 17: return is("alone(" + q + ", " + i + ")", x.alone(q, i), o.alone(q, i));
            case 18: {
                int like = any(101);
                return is("grow(" + p + ", " + like + ")", x.grow(p, like), o.grow(p, like));
            }
            case 19: {
                int strict = any(101);
                return is("guard(" + q + ", " + strict + ")", x.guard(q, strict), o.guard(q, strict));
            }
            case 20: {
                int is = any(2);
                return r.nextInt(3) > 0 || is("stay(" + p + ", " + is + ")", x.stay(p, is), o.stay(p, is));
            }
            case 21: return is("count(" + i + ")", x.count(i), o.count(i));
            case 22: return is("image(" + k + ")", x.image(k), o.image(k));
            case 23: return is("back(" + k + ")", x.back(k), o.back(k)) && stampsAreTheSame();
            case 24: return is("judge(" + s + ")", x.judge(s), o.judge(s)) && is("there(" + s + ")", x.there(s), o.there(s))
                && is("takes(" + s + ")", x.takes(s), o.takes(s));
            case 25: return is("dares(" + s + ")", x.dares(s), o.dares(s)) && is("lied(" + s + ")", x.lied(s), o.lied(s));
            case 26: return cheapRow(s) || is("stamped(" + s + ")", x.stamped(s), o.stamped(s)) && is("had(" + s + ", " + i + ")", x.had(s, i), o.had(s, i));
            case 27: return cheapRow(s) || is("sure(" + s + ", " + k + ")", x.sure(s, k), o.sure(s, k)) && is("dared(" + s + ")", x.dared(s), o.dared(s));
            case 28: {
                int width = any(4), size = r.nextInt(4) == 0 ? any(61) : any(6);
                return r.nextInt(4) > 0 || is("row(" + s + ", " + width + ", " + size + ")", x.row(s, width, size), o.row(s, width, size));
            }
            case 29: {
                long v = r.nextInt(3) == 0 ? r.nextLong() : r.nextInt(220) - 10;
                return is("write(" + s + ", " + i + ", " + v + ")", x.write(s, i, v), o.write(s, i, v));
            }
            case 30: {
                int to = any(4), at = any(5), size = any(5);
                return is("paste(" + s + ", " + i + ", " + to + ", " + at + ", " + size + ")", x.paste(s, i, to, at, size), o.paste(s, i, to, at, size));
            }
            case 31: return is("fault(" + k + ")", x.fault(k), o.fault(k));
            case 32: {
                int e = any(40);
                return is("end(" + e + ")", x.end(e), o.end(e));
            }
            case 33: return r.nextInt(dear ? 12 : 2) > 0 || searched(r.nextInt(18), p, q, i, k, n);
            default: return searched(r.nextInt(18), p, q, i, k, n);
        }
    }

    /** The oracle tries every row: a long one would take it too long. */
    private boolean cheapRow(int slot) {
        return Oracle.in(slot, 0, 3) && o.numbers[slot] != null && o.numbersOf(slot).length > 4 && o.numbersOf(slot).length <= 12;
    }

    private boolean someAct() {
        if (!o.told()) return true;
        java.util.List<Integer> can = Oracle.can(o.kin, o.now());
        int act = can.get(r.nextInt(can.size()));
        int p = act % 10, c = act / 10 % 10 - 1, q = act / 100;
        boolean same = act == 200 ? is("loaf()", x.loaf(), o.loaf())
            : is("cross(" + p + ", " + c + ", " + q + ")", x.cross(p, c, q), o.cross(p, c, q));
        return same && is("acts()", x.acts(), o.acts());
    }

    private boolean stampsAreTheSame() {
        return is("now(3)", x.now(3), o.now(3)) && is("stamp(0)", x.stamp(0), o.stamp(0)) && is("lies()", x.lies(), o.lies())
            && is("post(0, 3)", x.post(0, 3), o.post(0, 3)) && is("post(1, 3)", x.post(1, 3), o.post(1, 3))
            && is("acts()", x.acts(), o.acts());
    }

    private boolean searched(int which, int p, int q, int i, int k, int n) {
        int seed = r.nextInt(5) == 0 ? 2000000000 - r.nextInt(5) + 2 : r.nextInt(2000000000);
        int more = any(101);
        switch (which) {
            case 0: return is("days()", x.days(), o.days()) && is("plan(" + i + ")", x.plan(i), o.plan(i));
            case 1: {
                for (int j = -1; j < 20; j++) if (!is("plan(" + j + ")", x.plan(j), o.plan(j))) return false;
                return true;
            }
            case 2: {
                for (int j = -1; j < 20; j++) if (!is("surely(" + j + ")", x.surely(j), o.surely(j))) return false;
                return true;
            }
            case 3: return is("slowly()", x.slowly(), o.slowly()) && is("surest()", x.surest(), o.surest());
            case 4: return is("moves()", x.moves(), o.moves()) && is("crossings()", x.crossings(), o.crossings());
            case 5: return is("chance(" + k + ")", x.chance(k), o.chance(k)) && is("chance(0)", x.chance(0), o.chance(0)) && is("chance(1)", x.chance(1), o.chance(1));
            case 6: return is("states()", x.states(), o.states());
            case 7: return o.kin.persons.size() > 3 || is("hopeful()", x.hopeful(), o.hopeful());
            case 8: {
                int set = any(1 << o.kin.persons.size());
                return is("till(" + set + ")", x.till(set), o.till(set));
            }
            case 9: return is("over(" + p + ")", x.over(p), o.over(p));
            case 10: return is("never()", x.never(), o.never());
            case 11: return is("lost(" + i + ")", x.lost(i), o.lost(i)) && is("lost(0)", x.lost(0), o.lost(0));
            case 12: return is("worst()", x.worst(), o.worst());
            case 13: return is("worth(" + p + ", " + more + ")", x.worth(p, more), o.worth(p, more));
            case 14: return is("whom(" + more + ")", x.whom(more), o.whom(more));
            case 15: return is("blur(" + q + ")", x.blur(q), o.blur(q)) && is("looks(" + q + ")", x.looks(q), o.looks(q));
            case 16: return is("drawn(" + seed + ", " + k + ")", x.drawn(seed, k), o.drawn(seed, k));
            default: return is("luck(" + seed + ", " + more % 23 + ")", x.luck(seed, more % 23), o.luck(seed, more % 23));
        }
    }
}
