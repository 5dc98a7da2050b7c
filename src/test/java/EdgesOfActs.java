/** The bounds of promises 10 to 20: what is now, stamps, lies, why not, crossing, the loaf, what is taken back, what can be. */
public final class EdgesOfActs {
    private static final int NONE = OnePassport.NONE;
    private static final int LEAST = Integer.MIN_VALUE;
    private static final int GREATEST = Integer.MAX_VALUE;
    /** Five, 2 and 3 are children; the first post is keen and looks at one stamp, the second neither. */
    private static final String FIVE = "family loaf 4;post strict 10 keen 0 looks 1;post strict 20 keen 9 looks 0;person like 0 nose 0;"
        + "person like 0 nose 5;person like 0 nose 5 child;person like 0 nose 0 child;person like 0 nose 0;";
    private static final String SIX = "family loaf 9;post strict 100 keen 9 looks 0;" + "person like 0 nose 0;".repeat(6);
    private static final String ALONE = "family loaf 9;post strict 100 keen 0 looks 0;person like 0 nose 0;";
    private static final int[] FAR = {LEAST, LEAST + 1, -3, -2, GREATEST - 1, GREATEST};

    public static void main(String[] args) {
        now();
        most();
        stamps();
        lies();
        firstReason();
        reasonsOfNone();
        stampsSeen();
        nosesBehindOneAnother();
        cross();
        fortyActs();
        loaf();
        undo();
        anew();
        act();
        acts();
        may();
        Due.end();
    }

    private static void now() {
        Due.promise(10);
        OnePassport x = Tell.told(SIX);
        for (int what = 0; what < 5; what++) Due.is("now(" + what + ") at first", x.now(what), 0);
        x = Whole.full();
        int[] due = {7, 1, 9, 2, 60};
        for (int what = 0; what < 5; what++) Due.is("now(" + what + ")", x.now(what), due[what]);
        Whole.stays("a what there isn't", y -> {
            for (int what : new int[] {LEAST, -2, -1, 5, 6, GREATEST}) Due.is("now(" + what + ")", y.now(what), -2);
        });
        Whole.staysWithoutFamily("now", y -> {
            for (int what = -1; what < 6; what++) Due.is("now(" + what + ") of none", y.now(what), -2);
        });
        x.grow(1, 100);
        Due.is("risk as it is told now", x.now(4), 10);
        x.guard(0, 100);
        Due.is("risk at the post as it is told now", x.now(4), 20);
        x.guard(0, 0);
        Due.is("no risk", x.now(4), 0);
    }

    /** The most that forty acts can tell. */
    private static void most() {
        Due.promise(10);
        OnePassport x = Tell.told(SIX);
        for (int p = 0; p < 6; p++) {
            x.cross(p, NONE, 0);
            if (p < 5) x.loaf();
        }
        Due.is("all over", x.now(0), 63);
        Due.is("the passport over", x.now(1), 1);
        Due.is("days", x.now(2), 6 + 5 * 9);
        Due.is("stamps", x.now(3), 6);
        Due.is("risk", x.now(4), 600);
        x.anew();
        for (int i = 0; i < 40; i++) x.cross(3, NONE, 0);
        Due.is("forty stamps", x.now(3), 40);
        Due.is("forty days", x.now(2), 40);
        Due.is("all risk", x.now(4), 4000);
        Due.is("all here again", x.now(0), 0);
        x.undo();
        Due.is("but one", x.now(0), 8);
        x.anew();
        for (int i = 0; i < 40; i++) x.loaf();
        Due.is("forty loafs", x.now(2), 360);
        Due.is("no stamps", x.now(3), 0);
        Due.is("no risk", x.now(4), 0);
    }

    private static void stamps() {
        Due.promise(11);
        OnePassport x = Tell.told(FIVE);
        for (int i : FAR) Due.is("stamp(" + i + ") of none", x.stamp(i), NONE);
        for (int i = -1; i < 3; i++) Due.is("stamp(" + i + ") of none", x.stamp(i), NONE);
        x.cross(4, NONE, 0);
        x.cross(4, NONE, 0);
        x.cross(4, NONE, 1);
        x.cross(4, NONE, 1);
        x.loaf();
        int[] due = {NONE, 0, 1, 10, 11, NONE, NONE};
        for (int i = -1; i < 6; i++) Due.is("stamp(" + i + ")", x.stamp(i), due[i + 1]);
        for (int i : FAR) Due.is("stamp(" + i + ")", x.stamp(i), NONE);
        x.anew();
        for (int i = 0; i < 40; i++) x.cross(0, NONE, i < 20 ? 0 : 1);
        Due.is("stamp(19)", x.stamp(19), 1);
        Due.is("stamp(20)", x.stamp(20), 10);
        Due.is("stamp(38)", x.stamp(38), 10);
        Due.is("stamp(39)", x.stamp(39), 11);
        for (int i : new int[] {40, 41, 59, 60, 61}) Due.is("stamp(" + i + ") of 40", x.stamp(i), NONE);
        Whole.stays("a stamp there isn't", y -> {
            for (int i : FAR) Due.is("stamp(" + i + ")", y.stamp(i), NONE);
        });
        Whole.staysWithoutFamily("stamp", y -> {
            for (int i : FAR) Due.is("stamp(" + i + ")", y.stamp(i), -2);
            for (int i = -1; i < 2; i++) Due.is("stamp(" + i + ")", y.stamp(i), -2);
        });
    }

    private static void lies() {
        Due.promise(12);
        OnePassport x = Tell.told(FIVE);
        Due.is("no stamps", x.lies(), 0);
        x.loaf();
        Due.is("a loaf alone", x.lies(), 0);
        x.loaf();
        x.cross(0, NONE, 0);
        Due.is("one stamp", x.lies(), 0);
        x.loaf();
        Due.is("a loaf behind it", x.lies(), 0);
        x.cross(4, NONE, 1);
        Due.is("alike at two posts", x.lies(), 1);
        x.cross(4, NONE, 1);
        Due.is("over, over, back", x.lies(), 1);
        x.loaf();
        x.cross(0, NONE, 1);
        Due.is("over, over, back, back", x.lies(), 2);
        x.undo();
        Due.is("taken back", x.lies(), 1);
        OnePassport one = Tell.told(ALONE);
        for (int i = 0; i < 40; i++) one.cross(0, NONE, 0);
        Due.is("forty in turn", one.lies(), 0);
        OnePassport six = Tell.told(SIX);
        for (int p = 0; p < 6; p++) {
            six.cross(p, NONE, 0);
            six.loaf();
        }
        Due.is("six over", six.lies(), 5);
        six.loaf();
        for (int p = 0; p < 6; p++) {
            six.cross(p, NONE, 0);
            six.loaf();
        }
        Due.is("six over, six back", six.lies(), 10);
        Whole.staysWithoutFamily("lies", y -> Due.is("lies of none", y.lies(), -2));
    }

    /** 0 and the child 3 are over, the passport is here, the latest stamp is one over, the first post remembers 0. */
    private static OnePassport five() {
        OnePassport x = Tell.told(FIVE);
        x.cross(0, 3, 0);
        x.loaf();
        return x;
    }

    /** Where several reasons hold the first of them is told; and what has one can't be done. */
    private static void firstReason() {
        reason("1 and 5", 0, NONE, 0, 1);
        reason("1, 2 and 5", 3, NONE, 0, 1);
        reason("1, 2 and 3", 3, 1, 1, 1);
        reason("1 and 3", 0, 1, 1, 1);
        reason("1 and 3, himself", 0, 0, 1, 1);
        reason("1, 3 and 5", 0, 4, 0, 1);
        reason("1, the child is on his side", 0, 3, 1, 1);
        reason("2, 4 and 5", 2, NONE, 0, 2);
        reason("2 and 3, no child", 2, 1, 1, 2);
        reason("2 and 3, not there", 2, 3, 1, 2);
        reason("2, with itself", 2, 2, 1, 2);
        reason("2 alone", 2, NONE, 1, 2);
        reason("3, 4 and 5, no child", 1, 4, 0, 3);
        reason("3, 4 and 5, not there", 1, 3, 0, 3);
        reason("3 and 5, no child", 4, 1, 0, 3);
        reason("3 and 5, not there", 4, 3, 0, 3);
        reason("3, himself", 4, 4, 1, 3);
        reason("3, neither child nor there", 4, 0, 1, 3);
        reason("3, not there", 4, 3, 1, 3);
        reason("4 and 5", 1, NONE, 0, 4);
        reason("4 and 5 with a child", 1, 2, 0, 4);
        reason("5", 4, NONE, 0, 5);
        reason("5 with a child", 4, 2, 0, 5);
        Due.promise(13);
        OnePassport x = five();
        Due.is("none", x.why(4, NONE, 1), 0);
        Due.is("none with a child", x.why(4, 2, 1), 0);
        Due.is("none of another", x.why(1, NONE, 1), 0);
        x.cross(1, NONE, 1);
        x.loaf();
        Due.is("1 and 4", x.why(1, NONE, 0), 1);
        x.loaf();
        Due.is("4 alone", x.why(1, NONE, 0), 4);
        Due.is("0 alone may go back", x.why(0, NONE, 0), 0);
        Due.is("with the child", x.why(0, 3, 0), 0);
    }

    private static void reason(String what, int person, int child, int post, int why) {
        OnePassport x = five();
        Due.promise(13);
        Due.is(what, x.why(person, child, post), why);
        Due.promise(14);
        Due.is(what + ", crossing", x.cross(person, child, post), -5);
        StringBuilder is = new StringBuilder();
        StringBuilder was = new StringBuilder();
        Whole.family(x, is);
        Whole.family(five(), was);
        Due.same(what + ": all else", is.toString(), was.toString());
    }

    private static void reasonsOfNone() {
        Due.promise(13);
        Whole.stays("a why there isn't", y -> {
            for (int p : new int[] {LEAST, -2, -1, 6, 7, 32, GREATEST}) {
                Due.is("why(" + p + ", NONE, 0)", y.why(p, NONE, 0), -2);
                Due.is("why(" + p + ", 2, 1)", y.why(p, 2, 1), -2);
            }
            for (int c : new int[] {LEAST, -3, -2, 6, 7, 31, GREATEST}) {
                Due.is("why(0, " + c + ", 0)", y.why(0, c, 0), -2);
                Due.is("of one not there, why(4, " + c + ", 1)", y.why(4, c, 1), -2);
                Due.is("of a child, why(2, " + c + ", 1)", y.why(2, c, 1), -2);
            }
            for (int q : new int[] {LEAST, -2, -1, 2, 3, GREATEST}) {
                Due.is("why(0, NONE, " + q + ")", y.why(0, NONE, q), -2);
                Due.is("why(4, NONE, " + q + ")", y.why(4, NONE, q), -2);
            }
            Due.is("the last of all", y.why(5, 5, 1), 1);
        });
        Whole.staysWithoutFamily("why", y -> Due.is("why of none", y.why(0, NONE, 0), -2));
        Due.is("no posts", Tell.told("family loaf 1;person like 1 nose 1;").why(0, NONE, 0), -2);
        Due.is("no persons", Tell.told("family loaf 1;post strict 1 keen 1 looks 1;").why(0, NONE, 0), -2);
        Due.is("child 1 of one", Tell.told(ALONE).why(0, 1, 0), -2);
        Due.is("child 0 of one", Tell.told(ALONE).why(0, 0, 0), 3);
    }

    /** Posts that look at 0 .. 3 stamps, behind rows of stamps told as over (o) and back (b): who looks farther sees two alike. */
    private static void stampsSeen() {
        // behind each row, which looks (a bit each) forbid one over, one back then
        String[] rows = {"", "o", "oo", "ob", "ooo", "ooob", "oobo", "ooobb", "oboo", "oobob", "oobbo", "oooobbb", "ooobobo"};
        int[] over = {0, 14, 14, 0, 14, 8, 14, 12, 14, 0, 14, 12, 14};
        int[] back = {0, 0, 12, 14, 12, 14, 0, 14, 12, 14, 8, 14, 0};
        for (int looks = 0; looks < 4; looks++) {
            String family = "family loaf 1;post strict 0 keen 9 looks 0;post strict 0 keen 9 looks " + looks + ";"
                + "person like 0 nose 0;".repeat(6);
            for (int i = 0; i < rows.length; i++) {
                OnePassport x = stampedSo(family, rows[i]);
                boolean[] alike = {(over[i] >> looks & 1) == 1, (back[i] >> looks & 1) == 1};
                for (int side = 0; side < 2; side++) {
                    if (side == 1 && x.now(0) == 0) continue;
                    if (x.now(1) != side) x.loaf();
                    int person = onSide(x, side);
                    String what = "looks " + looks + " behind " + rows[i] + (side == 0 ? ", over" : ", back");
                    Due.promise(13);
                    Due.is(what, x.why(person, NONE, 1), alike[side] ? 5 : 0);
                    Due.is(what + ", at no look", x.why(person, NONE, 0), 0);
                    Due.promise(19);
                    int on = side == 0 ? 6 - Integer.bitCount(x.now(0)) : Integer.bitCount(x.now(0));
                    Due.is(what + ", acts", x.acts(), 1 + (alike[side] ? on : 2 * on));
                    Due.promise(14);
                    int days = x.now(2);
                    Due.is(what + ", crossing", x.cross(person, NONE, 1), alike[side] ? -5 : days + 1);
                    if (!alike[side]) x.undo();
                }
            }
        }
    }

    /** So many stamps at the post that doesn't look, the passport sent between as need be. */
    private static OnePassport stampedSo(String family, String row) {
        OnePassport x = Tell.told(family);
        for (int i = 0; i < row.length(); i++) {
            int side = row.charAt(i) == 'o' ? 0 : 1;
            if (x.now(1) != side) x.loaf();
            x.cross(onSide(x, side), NONE, 0);
        }
        return x;
    }

    private static int onSide(OnePassport x, int side) {
        for (int p = 0; p < x.count(0); p++) if (x.person(p, 4) == side) return p;
        return 0;
    }

    /** A nose as far off as keen tells is let go, one farther is not; nobody remembered lets all go. */
    private static void nosesBehindOneAnother() {
        for (int keen = 0; keen < 10; keen++) {
            OnePassport x = Tell.told("family loaf 1;post strict 0 keen " + keen + " looks 0;person like 0 nose 9;person like 0 nose "
                + (9 - keen) + ";person like 0 nose " + Math.max(0, 8 - keen) + ";");
            Due.promise(13);
            for (int p = 0; p < 3; p++) Due.is("keen " + keen + ", nobody remembered, " + p, x.why(p, NONE, 0), 0);
            x.cross(0, NONE, 0);
            x.loaf();
            Due.is("keen " + keen + ", as far", x.why(1, NONE, 0), 0);
            Due.is("keen " + keen + ", farther", x.why(2, NONE, 0), keen == 9 ? 0 : 4);
            x.loaf();
            Due.is("himself", x.why(0, NONE, 0), 0);
            Due.promise(14);
            x.loaf();
            Due.is("keen " + keen + ", he can't cross", x.cross(2, NONE, 0), keen == 9 ? 5 : -5);
        }
    }

    private static void cross() {
        Due.promise(14);
        Whole.stays("a crossing there isn't", y -> {
            for (int p : new int[] {LEAST, -2, -1, 6, 7, 32, GREATEST}) Due.is("cross(" + p + ", NONE, 0)", y.cross(p, NONE, 0), -2);
            for (int c : new int[] {LEAST, -3, -2, 6, 7, GREATEST}) Due.is("cross(0, " + c + ", 0)", y.cross(0, c, 0), -2);
            for (int q : new int[] {LEAST, -2, -1, 2, 3, GREATEST}) Due.is("cross(0, NONE, " + q + ")", y.cross(0, NONE, q), -2);
            Due.is("he is not there", y.cross(3, NONE, 0), -5);
            Due.is("a child", y.cross(2, NONE, 0), -5);
            Due.is("no child", y.cross(0, 1, 0), -5);
        });
        Whole.staysWithoutFamily("cross", y -> Due.is("cross of none", y.cross(0, NONE, 0), -2));
        OnePassport x = Tell.told(FIVE);
        Due.is("the last person with a child at the last post", x.cross(4, 3, 1), 1);
        Due.is("over", x.now(0), 24);
        Due.is("the passport", x.now(1), 1);
        Due.is("back alone", x.cross(4, NONE, 1), 2);
        Due.is("the child stays over", x.now(0), 8);
        Due.is("the loaf's days", x.loaf(), 6);
        Due.is("the child can't come alone", x.cross(3, NONE, 1), -5);
        Due.is("no post of two", x.cross(0, NONE, 2), -2);
    }

    /** The fortieth act can be, the forty-first can't, of whatever kind; what there isn't stays -2. */
    private static void fortyActs() {
        OnePassport x = Tell.told(ALONE);
        for (int i = 0; i < 39; i++) x.loaf();
        Due.promise(14);
        Due.is("the passport is over, he is not", x.cross(0, NONE, 0), -5);
        x.undo();
        Due.is("the thirty-ninth", x.cross(0, NONE, 0), 38 * 9 + 1);
        Due.is("the fortieth", x.cross(0, NONE, 0), 38 * 9 + 2);
        Due.is("how many", x.count(6), 40);
        Due.is("the forty-first", x.cross(0, NONE, 0), -5);
        Due.promise(15);
        Due.is("a loaf then", x.loaf(), -5);
        Due.promise(16);
        Due.is("undo", x.undo(), 39);
        Due.promise(15);
        Due.is("a loaf as the fortieth", x.loaf(), 38 * 9 + 1 + 9);
        Due.is("a loaf as the forty-first", x.loaf(), -5);
        Whole.staysAtForty("the forty-first", y -> {
            Due.promise(15);
            Due.is("loaf", y.loaf(), -5);
            Due.promise(14);
            for (int p = 0; p < 6; p++) {
                for (int q = 0; q < 2; q++) {
                    Due.is("cross(" + p + ", NONE, " + q + ")", y.cross(p, NONE, q), -5);
                    Due.is("cross(" + p + ", 2, " + q + ")", y.cross(p, 2, q), -5);
                }
            }
            Due.is("cross(6, NONE, 0)", y.cross(6, NONE, 0), -2);
            Due.is("cross(0, 6, 0)", y.cross(0, 6, 0), -2);
            Due.is("cross(0, NONE, 2)", y.cross(0, NONE, 2), -2);
            Due.promise(13);
            Due.is("why still tells of the crossing alone", y.why(0, NONE, 0) == 0 || y.why(1, NONE, 0) == 0 ? 1 : 0, 1);
        });
    }

    private static void loaf() {
        Due.promise(15);
        for (int loaf = 1; loaf <= 9; loaf++) {
            OnePassport x = Tell.told("family loaf " + loaf + ";");
            Due.is("loaf " + loaf, x.loaf(), loaf);
            Due.is("over", x.now(1), 1);
            Due.is("loaf " + loaf + " back", x.loaf(), 2 * loaf);
            Due.is("here", x.now(1), 0);
            Due.is("no stamp", x.now(3), 0);
            Due.is("two acts", x.count(6), 2);
        }
        Whole.staysWithoutFamily("loaf", y -> Due.is("loaf of none", y.loaf(), -2));
    }

    /** Acts taken back one by one: each time all is as it was behind so many. */
    private static void undo() {
        Due.promise(16);
        int[] acts = {4, 4, 144, 200, 101, 200, 130, 104, 4, 200, 200};
        OnePassport x = Tell.told(FIVE);
        StringBuilder[] behind = new StringBuilder[acts.length + 1];
        for (int i = 0; i <= acts.length; i++) {
            behind[i] = new StringBuilder();
            Whole.family(x, behind[i]);
            if (i < acts.length) Due.is("it can be " + acts[i], act(x, acts[i]) > 0 ? 1 : 0, 1);
        }
        for (int n = acts.length - 1; n >= 0; n--) {
            Due.is("undo to " + n, x.undo(), n);
            StringBuilder now = new StringBuilder();
            Whole.family(x, now);
            Due.same("behind " + n, now.toString(), behind[n].toString());
        }
        Due.is("there is none", x.undo(), -5);
        Due.is("there is none still", x.undo(), -5);
        StringBuilder now = new StringBuilder();
        Whole.family(x, now);
        Due.same("all stays", now.toString(), behind[0].toString());
        OnePassport y = Tell.told(ALONE);
        for (int i = 0; i < 40; i++) y.cross(0, NONE, 0);
        for (int i = 39; i >= 0; i--) Due.is("undo to " + i, y.undo(), i);
        Due.is("nothing is left", y.undo(), -5);
        Whole.staysWithoutFamily("undo", z -> Due.is("undo of none", z.undo(), -2));
    }

    private static int act(OnePassport x, int act) {
        return act == 200 ? x.loaf() : x.cross(act % 10, act / 10 % 10 - 1, act / 100);
    }

    private static void anew() {
        Due.promise(17);
        OnePassport x = Tell.told(FIVE);
        StringBuilder fresh = new StringBuilder();
        Whole.family(x, fresh);
        Due.is("none", x.anew(), 0);
        x.loaf();
        Due.is("one", x.anew(), 1);
        Due.is("none then", x.anew(), 0);
        for (int i = 0; i < 40; i++) act(x, 144);
        Due.is("forty", x.anew(), 40);
        StringBuilder now = new StringBuilder();
        Whole.family(x, now);
        Due.same("as new", now.toString(), fresh.toString());
        Due.promise(16);
        Due.is("undo behind it", x.undo(), -5);
        Due.promise(17);
        Whole.staysWithoutFamily("anew", y -> Due.is("anew of none", y.anew(), -2));
        OnePassport y = Whole.full();
        y.grow(0, 1);
        y.guard(1, 2);
        y.stay(3, 1);
        Due.is("three", y.anew(), 3);
        Due.is("like stays", y.person(0, 0), 1);
        Due.is("strict stays", y.post(1, 0), 2);
        Due.is("stays stays", y.person(3, 3), 1);
        Due.is("slots stay", y.count(9), 3);
        Due.is("the tape stays", y.count(8), 35);
        Due.is("the fault stays", y.fault(0), 2);
        Due.is("images stay", y.back(1), 0);
        Due.is("its acts", y.count(6), 2);
    }

    private static void act() {
        Due.promise(18);
        OnePassport x = Tell.told("family loaf 1;post strict 0 keen 9 looks 0;post strict 0 keen 9 looks 0;"
            + "person like 0 nose 0;".repeat(5) + "person like 0 nose 0 child;");
        for (int i : FAR) Due.is("act(" + i + ") of none", x.act(i), NONE);
        Due.is("act(0) of none", x.act(0), NONE);
        int[] acts = {0, 200, 3, 200, 164, 100, 200, 3, 103, 200};
        for (int act : acts) Due.is("it can be " + act, act(x, act) > 0 ? 1 : 0, 1);
        for (int i = 0; i < acts.length; i++) Due.is("act(" + i + ")", x.act(i), acts[i]);
        for (int i : new int[] {-1, 10, 11, 39, 40, 59, 60, 61}) Due.is("act(" + i + ") of 10", x.act(i), NONE);
        for (int i : FAR) Due.is("act(" + i + ") of 10", x.act(i), NONE);
        x.undo();
        Due.is("act(8) of nine", x.act(8), 103);
        Due.is("act(9) of nine", x.act(9), NONE);
        for (int i = 9; i < 40; i++) x.loaf();
        Due.is("act(39) of 40", x.act(39), 200);
        Due.is("act(40) of 40", x.act(40), NONE);
        x.loaf();
        Due.is("act(40) of a refused one", x.act(40), NONE);
        x.anew();
        Due.is("act(0) anew", x.act(0), NONE);
        Whole.stays("an act there isn't", y -> {
            for (int i : FAR) Due.is("act(" + i + ")", y.act(i), NONE);
            Due.is("act(-1)", y.act(-1), NONE);
            Due.is("act(3)", y.act(3), NONE);
        });
        Whole.staysWithoutFamily("act", y -> {
            for (int i : FAR) Due.is("act(" + i + ")", y.act(i), -2);
            for (int i = -1; i < 2; i++) Due.is("act(" + i + ")", y.act(i), -2);
        });
    }

    private static String three(String order) {
        StringBuilder s = new StringBuilder("family loaf 1;post strict 0 keen 9 looks 0;post strict 0 keen 9 looks 0;");
        for (char c : order.toCharArray()) s.append("person like 0 nose 0").append(c == 'c' ? " child;" : ";");
        return s.toString();
    }

    private static void acts() {
        Due.promise(19);
        Due.is("no persons, no posts", Tell.told("family loaf 1;").acts(), 1);
        Due.is("no posts", Tell.told("family loaf 1;" + "person like 1 nose 1;".repeat(6)).acts(), 1);
        Due.is("no persons", Tell.told("family loaf 1;post strict 1 keen 1 looks 1;").acts(), 1);
        Due.is("children alone", Tell.told(three("cccccc")).acts(), 1);
        Due.is("six", Tell.told(three("pppppp")).acts(), 13);
        Due.is("five and a child", Tell.told(three("pppppc")).acts(), 21);
        Due.is("four and two", Tell.told(three("ppppcc")).acts(), 25);
        Due.is("three and three, the most", Tell.told(three("pppccc")).acts(), 25);
        Due.is("two and four", Tell.told(three("ppcccc")).acts(), 21);
        Due.is("one and five", Tell.told(three("pccccc")).acts(), 13);
        OnePassport x = Tell.told(three("pppccc"));
        x.loaf();
        Due.is("nobody is there", x.acts(), 1);
        x.loaf();
        x.cross(0, 3, 0);
        Due.is("one and a child over", x.acts(), 5);
        x.loaf();
        Due.is("two and two here", x.acts(), 13);
        x.loaf();
        x.cross(0, NONE, 1);
        Due.is("three and two here", x.acts(), 19);
        rememberedByOne();
        Whole.staysWithoutFamily("acts", y -> Due.is("acts of none", y.acts(), -2));
        OnePassport forty = Whole.forty();
        int acts = forty.acts();
        forty.undo();
        forty.loaf();
        Due.is("behind forty as they can be", forty.acts(), acts);
    }

    /** Three strangers at two posts that let no stranger behind another: who crossed at one may be followed at the other alone. */
    private static void rememberedByOne() {
        String strangers = "family loaf 1;" + "post strict 0 keen 0 looks 0;".repeat(2) + "person like 0 nose 0;person like 0 nose 4;"
            + "person like 0 nose 8;";
        for (int post = 0; post < 2; post++) {
            for (int p = 0; p < 3; p++) {
                OnePassport x = Tell.told(strangers);
                x.cross(p, NONE, post);
                x.loaf();
                Due.is(p + " at " + post, x.acts(), 3);
                Due.is("the first who may", x.may(0), 100 * (1 - post) + (p == 0 ? 1 : 0));
                Due.is("the second who may", x.may(1), 100 * (1 - post) + (p == 2 ? 1 : 2));
                Due.is("and the loaf", x.may(2), 200);
                x.loaf();
                Due.is("back at either", x.acts(), 3);
                x.loaf();
                int other = p == 0 ? 1 : 0;
                x.cross(other, NONE, 1 - post);
                x.loaf();
                Due.is("the third at none", x.acts(), 1);
                Due.promise(33);
                Due.is("the third never", x.never(), 7 & ~(1 << p | 1 << other));
                Due.promise(21);
                Due.is("the end never", x.days(), NONE);
                x.stay(3 - p - other, 1);
                Due.is("the end without him", x.days(), 0);
                Due.promise(19);
            }
        }
        OnePassport compare = Tell.told(strangers.replace("loaf 1", "loaf 1 compare"));
        compare.cross(1, NONE, 1);
        compare.loaf();
        Due.is("by compare at none", compare.acts(), 1);
        compare.loaf();
        Due.is("he may at both", compare.acts(), 3);
    }

    private static void may() {
        Due.promise(20);
        mays(three("pppccc"), 3, 0, new int[] {0, 40, 50, 60});
        mays(three("cccppp"), 3, 3, new int[] {0, 10, 20, 30});
        mays(three("pppppp"), 6, 0, new int[] {0});
        mays("family loaf 1;", 0, 0, new int[] {});
        OnePassport x = five();
        // here are 1, 4 and the child 2; the first post lets nobody go
        int[] due = {101, 104, 131, 134, 200, NONE};
        for (int i = 0; i < due.length; i++) Due.is("may(" + i + ")", x.may(i), due[i]);
        Due.promise(19);
        Due.is("how many", x.acts(), 5);
        Due.promise(20);
        Whole.stays("a may there isn't", y -> {
            for (int i : FAR) Due.is("may(" + i + ")", y.may(i), NONE);
            Due.is("may(-1)", y.may(-1), NONE);
            Due.is("may(acts())", y.may(y.acts()), NONE);
        });
        Whole.staysWithoutFamily("may", y -> {
            for (int i : FAR) Due.is("may(" + i + ")", y.may(i), -2);
            for (int i = -1; i < 2; i++) Due.is("may(" + i + ")", y.may(i), -2);
        });
    }

    /** All that can be while all are here: at each post each child or none, with each who may cross. */
    private static void mays(String family, int persons, int first, int[] children) {
        OnePassport x = Tell.told(family);
        int i = 0;
        for (int post = 0; post < 2; post++) {
            for (int child : children) {
                for (int p = 0; p < persons; p++) {
                    Due.is("may(" + i + ")", x.may(i), 100 * post + child + first + p);
                    i++;
                }
            }
        }
        Due.is("the loaf is the last", x.may(i), 200);
        Due.is("none behind it", x.may(i + 1), NONE);
        Due.is("so many", x.acts(), i + 1);
        for (int far : FAR) Due.is("may(" + far + ")", x.may(far), NONE);
        for (int far : new int[] {-1, 26, 59, 60, 63, 64}) Due.is("may(" + far + ")", x.may(far), NONE);
    }
}
