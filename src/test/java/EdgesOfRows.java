/** The bounds of promises 21 to 35: the best rows to the end, chances, states, sets that are over, lost on the way. */
public final class EdgesOfRows {
    private static final int NONE = OnePassport.NONE;
    private static final int LEAST = Integer.MIN_VALUE;
    private static final int GREATEST = Integer.MAX_VALUE;
    private static final String OPEN = "post strict 100 keen 9 looks 0;";
    private static final String CHILD = "person like 0 nose 0 child;";
    private static final String ADULT = "person like 0 nose 0;";
    private static final String SIX = "family loaf 1;" + OPEN + ADULT.repeat(6);
    /** One brings five children, one by one: nine crossings. */
    private static final String FLOCK = "family loaf 9;" + OPEN + ADULT + CHILD.repeat(5);
    private static final String ALONE = "family loaf 9;" + OPEN + ADULT;
    private static final String HOME = "family loaf 9;" + OPEN + "person like 0 nose 0 stays;";
    /** Families whose end can't come: noses, no post, a child alone, stamps. */
    private static final String[] NEVER = {
        "family loaf 2;post strict 1 keen 3 looks 0;person like 1 nose 1;person like 1 nose 5;",
        "family loaf 1;person like 1 nose 1;",
        "family loaf 1;" + OPEN + CHILD,
        "family loaf 1;post strict 1 keen 9 looks 1;" + ADULT + ADULT};
    private static final int[] FAR = {LEAST, LEAST + 1, -3, -2, GREATEST - 1, GREATEST};

    public static void main(String[] args) {
        longRows();
        flockRows();
        theEndNow();
        itCannotCome();
        noFamily();
        placesThereAreNot();
        itComesJust();
        whatIsTold();
        chances();
        chancesOfNone();
        states();
        hopeful();
        till();
        over();
        never();
        lost();
        worst();
        Due.end();
    }

    /** Due of all that tells of the rows to the end: in the order of the promises. */
    private static void rows(String what, OnePassport x, int days, int surest, int slowly, int crossings, int moves) {
        Due.promise(21);
        Due.is(what + ", days()", x.days(), days);
        Due.promise(23);
        Due.is(what + ", surest()", x.surest(), surest);
        Due.promise(25);
        Due.is(what + ", slowly()", x.slowly(), slowly);
        Due.promise(26);
        Due.is(what + ", crossings()", x.crossings(), crossings);
        Due.promise(27);
        Due.is(what + ", moves()", x.moves(), moves);
    }

    private static void acts(String what, OnePassport x, int[] plan, int[] surely) {
        Due.promise(22);
        for (int i = 0; i <= plan.length + 1; i++) Due.is(what + ", plan(" + i + ")", x.plan(i), i < plan.length ? plan[i] : NONE);
        for (int i : FAR) Due.is(what + ", plan(" + i + ")", x.plan(i), NONE);
        Due.is(what + ", plan(-1)", x.plan(-1), NONE);
        Due.promise(24);
        for (int i = 0; i <= surely.length + 1; i++) Due.is(what + ", surely(" + i + ")", x.surely(i), i < surely.length ? surely[i] : NONE);
        for (int i : FAR) Due.is(what + ", surely(" + i + ")", x.surely(i), NONE);
        Due.is(what + ", surely(-1)", x.surely(-1), NONE);
    }

    private static void longRows() {
        OnePassport x = Tell.told(SIX);
        int[] row = {0, 200, 1, 200, 2, 200, 3, 200, 4, 200, 5};
        rows("six", x, 11, 600, 11, 6, 11);
        acts("six", x, row, row);
        x = Tell.told(SIX.replace("loaf 1", "loaf 9"));
        rows("six, a slow loaf", x, 51, 600, 51, 6, 11);
        acts("six, a slow loaf", x, row, row);
        x.cross(5, NONE, 0);
        int[] from = {200, 0, 200, 1, 200, 2, 200, 3, 200, 4};
        rows("five more", x, 50, 500, 50, 5, 10);
        acts("five more", x, from, from);
        x.loaf();
        x.loaf();
        x.loaf();
        rows("the passport here again", x, 41, 500, 41, 5, 9);
        // the forty acts bind who does them, not what is looked for
        x.anew();
        for (int i = 0; i < 40; i++) x.loaf();
        rows("behind forty acts", x, 51, 600, 51, 6, 11);
    }

    private static void flockRows() {
        OnePassport x = Tell.told(FLOCK);
        int[] row = {20, 0, 30, 0, 40, 0, 50, 0, 60};
        rows("flock", x, 9, 900, 9, 9, 9);
        acts("flock", x, row, row);
        x.guard(0, 0);
        rows("flock without risk", x, 9, 0, 9, 9, 9);
        acts("flock without risk", x, row, row);
        x.cross(0, NONE, 0);
        rows("flock, one over alone", x, 10, 0, 10, 10, 10);
        // a child that stays is left here
        x = Tell.told(FLOCK);
        x.stay(5, 1);
        rows("four of five", x, 7, 700, 7, 7, 7);
        x.stay(0, 1);
        rows("and he comes home", x, 8, 800, 8, 8, 8);
    }

    /** At the end no acts are left, wherever the passport is; who stays and is over has to come back. */
    private static void theEndNow() {
        int[] none = {};
        for (String family : new String[] {"family loaf 1;", "family loaf 9;" + OPEN, HOME, "family loaf 3;person like 1 nose 1 stays;"}) {
            OnePassport x = Tell.told(family);
            rows("the end of " + family, x, 0, 0, 0, 0, 0);
            acts("the end of " + family, x, none, none);
            x.loaf();
            rows("the passport over of " + family, x, 0, 0, 0, 0, 0);
            acts("the passport over of " + family, x, none, none);
        }
        OnePassport x = Tell.told(ALONE);
        rows("one alone", x, 1, 100, 1, 1, 1);
        acts("one alone", x, new int[] {0}, new int[] {0});
        x.cross(0, NONE, 0);
        rows("one alone over", x, 0, 0, 0, 0, 0);
        x.loaf();
        rows("one alone over, the passport not", x, 0, 0, 0, 0, 0);
        acts("one alone over, the passport not", x, none, none);
        OnePassport home = Tell.told(HOME);
        home.cross(0, NONE, 0);
        rows("who stays is over", home, 1, 100, 1, 1, 1);
        acts("who stays is over", home, new int[] {0}, new int[] {0});
        home.loaf();
        rows("the passport is here", home, 10, 100, 10, 1, 2);
        acts("the passport is here", home, new int[] {200, 0}, new int[] {200, 0});
        home.stay(0, 0);
        rows("who stays no more", home, 0, 0, 0, 0, 0);
    }

    private static void itCannotCome() {
        for (String family : NEVER) {
            OnePassport x = Tell.told(family);
            rows("never, " + family, x, NONE, NONE, NONE, NONE, NONE);
            acts("never, " + family, x, new int[] {}, new int[] {});
            Due.promise(28);
            Due.is("never", x.chance(0), NONE);
            Due.is("never", x.chance(1), NONE);
            Due.promise(35);
            Due.is("never", x.worst(), NONE);
        }
    }

    private static void noFamily() {
        Whole.staysWithoutFamily("rows", x -> {
            rows("none", x, -2, -2, -2, -2, -2);
            for (int i : new int[] {LEAST, -1, 0, 1, GREATEST}) {
                Due.promise(22);
                Due.is("plan(" + i + ")", x.plan(i), -2);
                Due.promise(24);
                Due.is("surely(" + i + ")", x.surely(i), -2);
                Due.promise(28);
                Due.is("chance(" + i + ")", x.chance(i), -2);
                Due.promise(31);
                Due.is("till(" + i + ")", x.till(i), -2);
                Due.promise(32);
                Due.is("over(" + i + ")", x.over(i), -2);
                Due.promise(34);
                Due.is("lost(" + i + ")", x.lost(i), -2);
            }
            Due.promise(29);
            Due.is("states()", x.states(), -2);
            Due.promise(30);
            Due.is("hopeful()", x.hopeful(), -2);
            Due.promise(33);
            Due.is("never()", x.never(), -2);
            Due.promise(35);
            Due.is("worst()", x.worst(), -2);
        });
    }

    private static void placesThereAreNot() {
        Whole.stays("what there isn't of rows", x -> {
            for (int i : FAR) {
                Due.promise(22);
                Due.is("plan(" + i + ")", x.plan(i), NONE);
                Due.promise(24);
                Due.is("surely(" + i + ")", x.surely(i), NONE);
                Due.promise(28);
                Due.is("chance(" + i + ")", x.chance(i), -2);
                Due.promise(31);
                Due.is("till(" + i + ")", x.till(i), -2);
                Due.promise(32);
                Due.is("over(" + i + ")", x.over(i), -2);
                Due.promise(34);
                Due.is("lost(" + i + ")", x.lost(i), i < 0 ? -2 : NONE);
            }
        });
    }

    /** As far as noses and stamps just let it, and not one farther. */
    private static void itComesJust() {
        for (int keen = 0; keen < 10; keen++) {
            for (int nose = 0; nose < 10; nose++) {
                OnePassport x = Tell.told("family loaf 3;post strict 10 keen " + keen + " looks 0;person like 0 nose 0;person like 0 nose "
                    + nose + ";");
                boolean comes = nose <= keen;
                rows("keen " + keen + ", nose " + nose, x, comes ? 5 : NONE, comes ? 20 : NONE, comes ? 5 : NONE, comes ? 2 : NONE,
                    comes ? 3 : NONE);
            }
        }
        for (int looks = 0; looks < 4; looks++) {
            OnePassport x = Tell.told("family loaf 3;post strict 10 keen 9 looks " + looks + ";" + ADULT + ADULT);
            boolean comes = looks == 0;
            rows("two, looks " + looks, x, comes ? 5 : NONE, comes ? 20 : NONE, comes ? 5 : NONE, comes ? 2 : NONE, comes ? 3 : NONE);
            x = Tell.told("family loaf 3;post strict 10 keen 9 looks " + looks + ";" + ADULT + CHILD + CHILD);
            rows("one and two, looks " + looks, x, 3, 30, 3, 3, 3);
        }
    }

    /** Rows by what is told now: like and strict change the surest alone, who stays changes all. */
    private static void whatIsTold() {
        OnePassport x = Tell.told(SIX);
        for (int p = 0; p < 6; p++) x.grow(p, 100);
        rows("all like the picture", x, 11, 0, 11, 6, 11);
        for (int p = 0; p < 6; p++) x.grow(p, 99);
        rows("all but like it", x, 11, 6, 11, 6, 11);
        x.guard(0, 99);
        rows("cut to nothing", x, 11, 0, 11, 6, 11);
        for (int p = 0; p < 5; p++) x.stay(p, 1);
        rows("five stay", x, 1, 0, 1, 1, 1);
        acts("five stay", x, new int[] {5}, new int[] {5});
        x.stay(5, 1);
        rows("all stay", x, 0, 0, 0, 0, 0);
        x.stay(0, 0);
        acts("the first alone goes", x, new int[] {0}, new int[] {0});
    }

    private static void chance(String what, OnePassport x, long above, long below) {
        Due.promise(28);
        Due.is(what + ", above", x.chance(0), above);
        Due.is(what + ", below", x.chance(1), below);
    }

    /** Nine crossings can be told, ten can't, however sure they are. */
    private static void chances() {
        int[] likes = {99, 50, 0, 100, 80, 1};
        long[] above = {913517247483640899L, 1, 0, 1, 262144, 1};
        long[] below = {1000000000000000000L, 512, 1, 1, 1953125, 1000000000000000000L};
        long[] aboveEight = {9227446944279201L, 1, 0, 1, 65536, 1};
        long[] belowEight = {10000000000000000L, 256, 1, 1, 390625, 10000000000000000L};
        for (int i = 0; i < likes.length; i++) {
            OnePassport x = Tell.told(FLOCK);
            x.grow(0, likes[i]);
            chance("nine by " + likes[i], x, above[i], below[i]);
            x.cross(0, NONE, 0);
            chance("ten by " + likes[i], x, NONE, NONE);
            x.cross(0, NONE, 0);
            chance("nine again by " + likes[i], x, above[i], below[i]);
            x.cross(0, 5, 0);
            chance("eight by " + likes[i], x, aboveEight[i], belowEight[i]);
            x.loaf();
            chance("eight and a loaf by " + likes[i], x, aboveEight[i], belowEight[i]);
        }
        OnePassport six = Tell.told(SIX);
        for (int p = 0; p < 6; p++) six.grow(p, 50 + 10 * (p % 5));
        // 1/2 3/5 7/10 4/5 9/10 1/2
        chance("loafs are sure", six, 189, 2500);
        six.guard(0, 0);
        chance("no risk", six, 1, 1);
        chance("at the end", Tell.told("family loaf 1;"), 1, 1);
        chance("one alone", Tell.told(ALONE), 0, 1);
        OnePassport one = Tell.told(ALONE);
        for (int like = 0; like <= 100; like += 25) {
            one.grow(0, like);
            int[] a = {0, 1, 1, 3, 1};
            int[] b = {1, 4, 2, 4, 1};
            chance("like " + like, one, a[like / 25], b[like / 25]);
        }
    }

    private static void chancesOfNone() {
        Due.promise(28);
        for (int what : new int[] {LEAST, -2, -1, 2, 3, GREATEST}) {
            Due.is("chance(" + what + ")", Tell.told(ALONE).chance(what), -2);
            Due.is("chance(" + what + ") at the end", Tell.told("family loaf 1;").chance(what), -2);
            Due.is("chance(" + what + ") of none", Tell.told(NEVER[1]).chance(what), -2);
            OnePassport ten = Tell.told(FLOCK);
            ten.cross(0, NONE, 0);
            Due.is("chance(" + what + ") of ten", ten.chance(what), -2);
        }
    }

    private static void states(String family, int states, int hopeful) {
        OnePassport x = Tell.told(family);
        Due.promise(29);
        Due.is("states of " + family, x.states(), states);
        Due.promise(30);
        Due.is("hopeful of " + family, x.hopeful(), hopeful);
        Due.promise(29);
        Due.is("states once more", x.states(), states);
        x.loaf();
        for (int p = 0; p < 6; p++) x.cross(p, NONE, 0);
        Due.is("from all here on", x.states(), states);
        Due.promise(30);
        Due.is("from all here on, hopeful", x.hopeful(), hopeful);
    }

    private static void states() {
        states("family loaf 1;", 2, 2);
        states("family loaf 1;" + OPEN + OPEN, 2, 2);
        states("family loaf 1;" + ADULT.repeat(6), 2, 0);
        states("family loaf 1;" + OPEN + CHILD.repeat(6), 2, 0);
        states("family loaf 1;" + CHILD.replace("child", "child stays").repeat(6), 2, 2);
        for (int looks = 0; looks < 4; looks++) {
            states("family loaf 1;post strict 0 keen 0 looks " + looks + ";" + ADULT, 10, 10);
        }
        // who is over, whom the post remembers, three stamps: 23 of two persons, each with the passport here or there
        states("family loaf 1;post strict 0 keen 9 looks 0;" + ADULT + ADULT, 46, 46);
        states("family loaf 1;post strict 0 keen 9 looks 1;" + ADULT + ADULT, 18, 0);
        states("family loaf 1;post strict 0 keen 0 looks 0;" + ADULT + "person like 0 nose 1;", 18, 0);
        // strangers at two posts: 49, less three each where both posts remember the same one
        states("family loaf 1;" + "post strict 0 keen 0 looks 0;".repeat(2) + ADULT + "person like 0 nose 1;", 98, 86);
        // one at two posts: which of them remember him
        states("family loaf 1;" + OPEN + OPEN + ADULT, 24, 24);
        states("family loaf 1 compare;" + OPEN + OPEN + ADULT, 10, 10);
        Due.promise(29);
        Due.is("those of most", Tell.told("family loaf 1;" + OPEN + OPEN + ADULT.repeat(6)).states() > 10000 ? 1 : 0, 1);
    }

    private static void hopeful() {
        Due.promise(30);
        OnePassport x = Tell.told("family loaf 1;post strict 0 keen 9 looks 1;" + ADULT + ADULT);
        Due.is("two can't", x.hopeful(), 0);
        x.stay(1, 1);
        Due.is("one can, from all", x.hopeful(), 18);
        x.stay(0, 1);
        Due.is("none has to", x.hopeful(), 18);
        x.stay(1, 0);
        x.stay(0, 0);
        Due.is("two can't again", x.hopeful(), 0);
        OnePassport strangers = Tell.told("family loaf 1;post strict 0 keen 0 looks 0;" + ADULT + "person like 0 nose 1;");
        strangers.stay(0, 1);
        Due.is("who is remembered alone: two of nobody, eight of him", strangers.hopeful(), 10);
        Due.promise(29);
        Due.is("states stay", strangers.states(), 18);
    }

    private static void till() {
        Due.promise(31);
        OnePassport x = Tell.told(SIX);
        Due.is("nobody", x.till(0), 0);
        for (int set = 1; set < 64; set++) Due.is("till(" + set + ")", x.till(set), 2 * Integer.bitCount(set) - 1);
        for (int set : new int[] {64, 65, 127, 128, -1, -64, GREATEST, LEAST}) Due.is("till(" + set + ") of six", x.till(set), -2);
        x.cross(0, NONE, 0);
        Due.is("just him now", x.till(1), 0);
        Due.is("nobody again", x.till(0), 1);
        Due.is("another alone", x.till(2), 2);
        Due.is("both", x.till(3), 2);
        Due.is("all", x.till(63), 10);
        OnePassport one = Tell.told(ALONE);
        int[] due = {-2, 0, 1, -2, -2};
        for (int set = -1; set < 4; set++) Due.is("till(" + set + ") of one", one.till(set), due[set + 1]);
        OnePassport nobody = Tell.told("family loaf 1;" + OPEN);
        Due.is("till(0) of nobody", nobody.till(0), 0);
        Due.is("till(1) of nobody", nobody.till(1), -2);
        OnePassport flock = Tell.told(FLOCK);
        Due.is("children without him", flock.till(62), 10);
        Due.is("a child without him", flock.till(2), 2);
        Due.is("all", flock.till(63), 9);
        for (String never : NEVER) {
            OnePassport y = Tell.told(never);
            Due.is("never, " + never, y.till((1 << y.count(0)) - 1), NONE);
            Due.is("nobody, " + never, y.till(0), 0);
            Due.is("no such set, " + never, y.till(1 << y.count(0)), -2);
        }
        // beyond the end, and who stays too
        OnePassport home = Tell.told(HOME);
        Due.is("who stays", home.till(1), 1);
    }

    private static void over() {
        Due.promise(32);
        OnePassport x = Tell.told(SIX);
        for (int p = 0; p < 6; p++) Due.is("over(" + p + ")", x.over(p), 1);
        for (int p : new int[] {LEAST, -2, -1, 6, 7, 31, 32, GREATEST}) Due.is("over(" + p + ") of six", x.over(p), -2);
        x.cross(3, NONE, 0);
        Due.is("he is", x.over(3), 0);
        Due.is("another, by him or the loaf", x.over(0), 2);
        x.loaf();
        Due.is("he still is", x.over(3), 0);
        Due.is("another, the passport here", x.over(0), 1);
        x.loaf();
        x.cross(3, NONE, 0);
        Due.is("he is no more", x.over(3), 1);
        OnePassport flock = Tell.told(FLOCK);
        for (int p = 0; p < 6; p++) Due.is("of the flock " + p, flock.over(p), 1);
        flock.cross(0, 3, 0);
        Due.is("the child is", flock.over(3), 0);
        Due.is("the next child", flock.over(1), 2);
        OnePassport strangers = Tell.told(NEVER[0]);
        Due.is("either", strangers.over(1), 1);
        strangers.cross(0, NONE, 0);
        Due.is("the other never", strangers.over(1), NONE);
        Due.is("no post", Tell.told(NEVER[1]).over(0), NONE);
        Due.is("a child alone", Tell.told(NEVER[2]).over(0), NONE);
        Due.is("no second of one", Tell.told(ALONE).over(1), -2);
        Due.is("of nobody", Tell.told("family loaf 1;").over(0), -2);
        Due.is("who stays", Tell.told(HOME).over(0), 1);
    }

    private static void never() {
        Due.promise(33);
        Due.is("nobody", Tell.told("family loaf 1;").never(), 0);
        Due.is("six", Tell.told(SIX).never(), 0);
        Due.is("the flock", Tell.told(FLOCK).never(), 0);
        Due.is("no posts", Tell.told("family loaf 1;" + ADULT.repeat(6)).never(), 63);
        Due.is("children alone", Tell.told("family loaf 1;" + OPEN + CHILD.repeat(6)).never(), 63);
        Due.is("who stays can", Tell.told(HOME).never(), 0);
        OnePassport x = Tell.told("family loaf 1;post strict 0 keen 0 looks 0;person like 0 nose 0;person like 0 nose 1;"
            + "person like 0 nose 2 child;person like 0 nose 0;");
        Due.is("anyone", x.never(), 0);
        x.cross(1, 2, 0);
        Due.is("all of another nose", x.never(), 9);
        x.loaf();
        Due.is("who is over is", x.never(), 9);
        x.anew();
        x.cross(3, NONE, 0);
        Due.is("another nose alone", x.never(), 2);
        x.undo();
        Due.is("anyone again", x.never(), 0);
    }

    private static void lost() {
        Due.promise(34);
        OnePassport x = Tell.told(SIX);
        int[] due = {0, 1, 1, 3, 3, 7, 7, 15, 15, 31, 31, 63, NONE, NONE};
        for (int n = 0; n < due.length; n++) Due.is("lost(" + n + ")", x.lost(n), due[n]);
        for (int n : new int[] {63, 64, 1000, GREATEST - 1, GREATEST}) Due.is("lost(" + n + ")", x.lost(n), NONE);
        for (int n : new int[] {-1, -2, LEAST + 1, LEAST}) {
            Due.is("lost(" + n + ")", x.lost(n), -2);
            Due.is("lost(" + n + ") without a row", Tell.told(NEVER[0]).lost(n), -2);
            Due.is("lost(" + n + ") at the end", Tell.told("family loaf 1;").lost(n), -2);
        }
        x.cross(5, NONE, 0);
        Due.is("who is over now", x.lost(0), 32);
        Due.is("all", x.lost(10), 63);
        Due.is("no eleventh", x.lost(11), NONE);
        Due.is("at the end", Tell.told("family loaf 1;").lost(0), 0);
        Due.is("behind the end", Tell.told("family loaf 1;").lost(1), NONE);
        OnePassport one = Tell.told(ALONE);
        one.cross(0, NONE, 0);
        Due.is("over at the end", one.lost(0), 1);
        Due.is("not so many", one.lost(1), NONE);
        for (String never : NEVER) {
            Due.is("lost(0), " + never, Tell.told(never).lost(0), NONE);
            Due.is("lost(1), " + never, Tell.told(never).lost(1), NONE);
        }
    }

    private static void worst() {
        Due.promise(35);
        Due.is("six", Tell.told(SIX).worst(), 0);
        Due.is("the end", Tell.told("family loaf 1;").worst(), 0);
        Due.is("all stay", Tell.told(HOME).worst(), 0);
        OnePassport one = Tell.told(ALONE);
        Due.is("one alone", one.worst(), 0);
        one.cross(0, NONE, 0);
        Due.is("one alone over", one.worst(), 0);
        // one who stays brings another's child over: he himself is wrong on the way, as many as at first
        OnePassport x = Tell.told("family loaf 9;" + OPEN + "person like 0 nose 0 stays;" + CHILD);
        Due.is("the first of several", x.worst(), 0);
        // he fetches his own: one wrong, two, none
        x = Tell.told("family loaf 9;" + OPEN + "person like 0 nose 0 stays;person like 0 nose 0 stays child;");
        x.cross(0, 1, 0);
        x.cross(0, NONE, 0);
        Due.is("behind the first act", x.worst(), 1);
        x.loaf();
        Due.is("behind the loaf and the next", x.worst(), 2);
        for (String never : NEVER) Due.is("worst, " + never, Tell.told(never).worst(), NONE);
    }
}
