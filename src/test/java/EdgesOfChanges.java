/** The bounds of promises 45 to 57: stamps at a post alone, disguise, what posts may be, trips drawn, changes, counts, images. */
public final class EdgesOfChanges {
    private static final int NONE = OnePassport.NONE;
    private static final int LEAST = Integer.MIN_VALUE;
    private static final int GREATEST = Integer.MAX_VALUE;
    private static final String OPEN = "post strict 100 keen 9 looks 0;";
    private static final String ADULT = "person like 0 nose 0;";
    private static final String CHILD = "person like 0 nose 0 child;";
    private static final String ALONE = "family loaf 9;" + OPEN + ADULT;
    private static final String STRANGERS = "family loaf 2;post strict 1 keen 3 looks 0;person like 1 nose 1;person like 1 nose 5;";
    private static final int[] NO_PERSON = {LEAST, LEAST + 1, -2, -1, 6, 7, 32, GREATEST};
    private static final int[] NO_POST = {LEAST, LEAST + 1, -2, -1, 2, 3, GREATEST};
    private static final int[] NO_HUNDREDTH = {LEAST, LEAST + 1, -2, -1, 101, 102, 256, GREATEST};
    /** The first draws of seeds 0 .. 19, and of 2,000,000,000 and 19 on. */
    private static final int[] LOW = {0, 38, 8, 47, 17, 55, 26, 64, 34, 72, 43, 81, 51, 90, 60, 98, 69, 7, 77, 16};
    private static final int[] HIGH = {4, 42, 12, 51, 21, 59, 30, 68, 38, 76, 47, 85, 55, 94, 64, 2, 73, 11, 81, 20};
    /** Six draws each of some seeds. */
    private static final int[] SEEDS = {0, 1, 2, 3, 1000000000, 1999999999, 2000000000};
    private static final int[][] DRAWS = {{0, 68, 88, 17, 98, 27}, {38, 58, 13, 15, 51, 27}, {8, 17, 39, 14, 37, 95}, {47, 7, 65, 12, 22, 96},
        {36, 0, 4, 62, 96, 43}, {33, 43, 96, 9, 41, 91}, {4, 33, 21, 7, 26, 92}};

    public static void main(String[] args) {
        alone();
        worth();
        worthOfNone();
        whom();
        blur();
        looks();
        drawnAtTheBound();
        drawnSixTimes();
        drawnOfNone();
        luck();
        grow();
        guard();
        stay();
        count();
        imagesThereAreNot();
        whatAnImageKeeps();
        searchedAheadOfBack();
        imagesOfBounds();
        Due.end();
    }

    private static void alone() {
        Due.promise(45);
        for (int looks = 0; looks < 4; looks++) {
            OnePassport x = Tell.told("family loaf 1;" + OPEN + "post strict 0 keen 0 looks " + looks + ";" + ADULT);
            for (int n = 0; n <= 12; n++) {
                Due.is(n + " over, looks " + looks, x.alone(1, n), n < 2 ? 0 : looks == 0 ? n - 1 : NONE);
                Due.is(n + " over at the other", x.alone(0, n), n < 2 ? 0 : n - 1);
            }
            for (int n : new int[] {LEAST, -2, -1, 13, 14, 60, GREATEST}) Due.is(n + " over, looks " + looks, x.alone(1, n), -2);
            x.cross(0, NONE, 0);
            Due.is("whatever is now", x.alone(1, 1), 0);
        }
        Whole.stays("an alone there isn't", x -> {
            for (int q : NO_POST) {
                for (int n : new int[] {-1, 0, 12, 13}) Due.is("alone(" + q + ", " + n + ")", x.alone(q, n), -2);
            }
            for (int n : new int[] {LEAST, -1, 13, GREATEST}) Due.is("alone(0, " + n + ")", x.alone(0, n), -2);
        });
        Due.is("no persons", Tell.told("family loaf 1;" + OPEN).alone(0, 12), 11);
        Due.is("no posts", Tell.told("family loaf 1;" + ADULT).alone(0, 1), -2);
        Whole.staysWithoutFamily("alone", x -> Due.is("alone of none", x.alone(0, 1), -2));
    }

    private static void worth() {
        Due.promise(46);
        OnePassport x = Tell.told(ALONE);
        for (int like : new int[] {0, 1, 40, 99, 100}) {
            x.grow(0, like);
            for (int n = 0; n <= 100; n++) {
                if (n > 2 && n < 98 && n != 59 && n != 60 && n != 61) continue;
                Due.is("like " + like + " and " + n, x.worth(0, n), Math.min(n, 100 - like));
            }
            Due.is("like stays", x.person(0, 0), like);
            Due.is("surest() stays", x.surest(), 100 - like);
        }
        x.grow(0, 50);
        x.guard(0, 1);
        Due.is("cut to nothing", x.worth(0, 50), 0);
        x.guard(0, 2);
        Due.is("the last of it", x.worth(0, 1), 1);
        x.guard(0, 100);
        x.cross(0, NONE, 0);
        Due.is("at the end", x.worth(0, 50), 0);
        OnePassport y = Tell.told("family loaf 9;" + OPEN + "person like 60 nose 0;" + "person like 0 nose 0 stays;" + CHILD);
        Due.is("each crossing", y.worth(0, 10), 10);
        Due.is("who stays is asked for nothing", y.worth(1, 40), 0);
        // 1 would bring the child and come back more surely then: 40 and 0
        Due.is("who stays can do it", y.worth(1, 100), 0);
        Due.is("a child", y.worth(2, 100), 0);
        // one more child: 0 would cross thrice
        y = Tell.told("family loaf 9;" + OPEN + "person like 60 nose 0;person like 0 nose 0 stays;" + CHILD + CHILD);
        Due.is("thrice", y.surest(), 120);
        Due.is("thrice ten", y.worth(0, 10), 30);
        Due.is("no better by 61", y.worth(1, 59), 0);
        Due.is("once and twice no risk", y.worth(1, 100), 80);
    }

    private static void worthOfNone() {
        Due.promise(46);
        Whole.stays("a worth there isn't", x -> {
            for (int p : NO_PERSON) {
                for (int n : new int[] {-1, 0, 100, 101}) Due.is("worth(" + p + ", " + n + ")", x.worth(p, n), -2);
            }
            for (int n : NO_HUNDREDTH) {
                for (int p = 0; p < 6; p++) Due.is("worth(" + p + ", " + n + ")", x.worth(p, n), -2);
            }
            x.worth(0, 100);
            x.worth(5, 100);
        });
        OnePassport no = Tell.told(STRANGERS);
        for (int n : new int[] {0, 1, 100}) Due.is("it can't come, " + n, no.worth(1, n), NONE);
        for (int n : NO_HUNDREDTH) Due.is("it can't come, " + n, no.worth(1, n), -2);
        Due.is("it can't come, nobody", no.worth(2, 1), -2);
        Due.is("nobody", Tell.told("family loaf 1;").worth(0, 1), -2);
        Whole.staysWithoutFamily("worth", x -> Due.is("worth of none", x.worth(0, 1), -2));
    }

    private static void whom() {
        Due.promise(47);
        OnePassport x = Tell.told("family loaf 1;" + OPEN + ADULT.repeat(6));
        for (int n : new int[] {1, 2, 99, 100}) Due.is("the first of six by " + n, x.whom(n), 0);
        Due.is("by nothing none", x.whom(0), NONE);
        x.grow(0, 100);
        Due.is("the first of five", x.whom(1), 1);
        for (int p = 1; p < 5; p++) x.grow(p, 99);
        Due.is("the first of five by 1", x.whom(1), 1);
        Due.is("the last by 2", x.whom(2), 5);
        x.grow(5, 100);
        for (int p = 1; p < 5; p++) x.grow(p, 100);
        for (int n : new int[] {0, 1, 100}) Due.is("none can be more like, " + n, x.whom(n), NONE);
        x.grow(5, 99);
        Due.is("the last alone", x.whom(100), 5);
        x.guard(0, 99);
        Due.is("no risk to lose", x.whom(100), NONE);
        OnePassport one = Tell.told(ALONE);
        one.cross(0, NONE, 0);
        Due.is("at the end", one.whom(100), NONE);
        Due.is("nobody", Tell.told("family loaf 1;").whom(100), NONE);
        OnePassport no = Tell.told(STRANGERS);
        for (int n : new int[] {0, 1, 100}) Due.is("it can't come, " + n, no.whom(n), NONE);
        for (int n : NO_HUNDREDTH) Due.is("it can't come, " + n, no.whom(n), -2);
        Whole.stays("a whom there isn't", y -> {
            for (int n : NO_HUNDREDTH) Due.is("whom(" + n + ")", y.whom(n), -2);
            y.whom(100);
        });
        Whole.staysWithoutFamily("whom", y -> {
            for (int n : new int[] {LEAST, -1, 0, 1, 100, 101, GREATEST}) Due.is("whom(" + n + ") of none", y.whom(n), -2);
        });
    }

    private static void blur() {
        Due.promise(48);
        for (int nose = 0; nose < 10; nose++) {
            for (int keen : new int[] {0, 9}) {
                OnePassport x = Tell.told("family loaf 1;post strict 0 keen " + keen + " looks 0;" + ADULT + "person like 0 nose " + nose + ";");
                Due.is("noses 0 and " + nose, x.blur(0), nose);
                Due.is("keen stays", x.post(0, 1), keen);
                x.cross(1, NONE, 0);
                Due.is("from now on", x.blur(0), nose);
                x.loaf();
                x.cross(0, NONE, 0);
                Due.is("at the end or not", x.blur(0), keen == 9 || nose == 0 ? 0 : nose);
            }
        }
        OnePassport two = Tell.told("family loaf 1;post strict 0 keen 0 looks 0;post strict 0 keen 4 looks 0;" + ADULT + "person like 0 nose 4;");
        Due.is("the other lets them", two.blur(0), 0);
        // one at each post: nobody is remembered at the second
        Due.is("one at each", two.blur(1), 0);
        for (String never : new String[] {"family loaf 1;post strict 1 keen 9 looks 1;" + ADULT + ADULT, "family loaf 1;" + OPEN + CHILD,
            "family loaf 1;post strict 1 keen 0 looks 3;" + ADULT + CHILD + ADULT}) {
            Due.is("by none, " + never, Tell.told(never).blur(0), NONE);
        }
        Due.is("at the end", Tell.told("family loaf 1;post strict 1 keen 9 looks 3;").blur(0), 0);
        Whole.stays("a blur there isn't", x -> {
            for (int q : NO_POST) Due.is("blur(" + q + ")", x.blur(q), -2);
            x.blur(0);
            x.blur(1);
        });
        Due.is("post 1 of one", Tell.told(ALONE).blur(1), -2);
        Due.is("no posts", Tell.told("family loaf 1;").blur(0), -2);
        Due.is("no posts, it can't come", Tell.told("family loaf 1;" + ADULT).blur(0), -2);
        Whole.staysWithoutFamily("blur", x -> Due.is("blur of none", x.blur(0), -2));
    }

    /** Greatest looks of each number: over, over and back are seen by who looks at three, over and over by who looks at two. */
    private static void looks() {
        Due.promise(49);
        for (int looks = 0; looks < 4; looks++) {
            OnePassport x = Tell.told("family loaf 1;post strict 0 keen 9 looks " + looks + ";" + ADULT + CHILD);
            Due.is("one and a child", x.looks(0), 3);
            Due.is("looks stays", x.post(0, 2), looks);
        }
        OnePassport x = Tell.told("family loaf 1;" + OPEN + ADULT + ADULT + CHILD);
        Due.is("two", x.looks(0), 0);
        x.cross(0, NONE, 0);
        x.loaf();
        Due.is("over, and one to go", x.looks(0), 0);
        x.cross(1, NONE, 0);
        Due.is("over, over: back for the child", x.looks(0), 1);
        x.cross(0, NONE, 0);
        Due.is("over, over, back", x.looks(0), 2);
        x.cross(0, NONE, 0);
        x.cross(0, NONE, 0);
        Due.is("over, over, back, over, back", x.looks(0), 3);
        x.cross(0, 2, 0);
        Due.is("at the end", x.looks(0), 3);
        OnePassport two = Tell.told("family loaf 1;" + OPEN + "post strict 0 keen 9 looks 3;" + ADULT + ADULT);
        Due.is("the second doesn't matter", two.looks(1), 3);
        Due.is("the second looks, over and over at the first", two.looks(0), 0);
        Due.is("by none", Tell.told(STRANGERS).looks(0), NONE);
        Due.is("a child alone", Tell.told("family loaf 1;" + OPEN + CHILD).looks(0), NONE);
        Whole.stays("a looks there isn't", y -> {
            for (int q : NO_POST) Due.is("looks(" + q + ")", y.looks(q), -2);
            y.looks(0);
            y.looks(1);
        });
        Due.is("post 1 of one", Tell.told(ALONE).looks(1), -2);
        Due.is("no posts", Tell.told("family loaf 1;").looks(0), -2);
        Whole.staysWithoutFamily("looks", y -> Due.is("looks of none", y.looks(0), -2));
    }

    /** A draw below the risk is caught, one as great is not. */
    private static void drawnAtTheBound() {
        Due.promise(50);
        OnePassport x = Tell.told(ALONE);
        for (int i = 0; i < SEEDS.length; i++) {
            int seed = SEEDS[i], draw = DRAWS[i][0];
            x.grow(0, 100 - draw);
            Due.is("as great, seed " + seed, x.drawn(seed, 0), NONE);
            Due.is("as great, over, seed " + seed, x.drawn(seed, 1), 1);
            x.grow(0, 99 - draw);
            Due.is("below, seed " + seed, x.drawn(seed, 0), 0);
            Due.is("below, over, seed " + seed, x.drawn(seed, 1), 0);
            x.grow(0, 0);
            Due.is("always, seed " + seed, x.drawn(seed, 0), 0);
            x.grow(0, 100);
            Due.is("never, seed " + seed, x.drawn(seed, 0), NONE);
        }
        x.grow(0, 0);
        x.cross(0, NONE, 0);
        Due.is("at the end", x.drawn(0, 0), NONE);
        Due.is("at the end, over", x.drawn(0, 1), 1);
        OnePassport nobody = Tell.told("family loaf 1;");
        Due.is("nobody", nobody.drawn(0, 0), NONE);
        Due.is("nobody over", nobody.drawn(2000000000, 1), 0);
    }

    /** Six cross with loafs between, for which nothing is drawn: each at the bound of its own draw. */
    private static void drawnSixTimes() {
        Due.promise(50);
        for (int i = 0; i < SEEDS.length; i++) {
            OnePassport x = Tell.told("family loaf 1;" + OPEN + ADULT.repeat(6));
            int seed = SEEDS[i];
            for (int p = 0; p < 6; p++) x.grow(p, 100 - DRAWS[i][p]);
            Due.is("nobody is caught, seed " + seed, x.drawn(seed, 0), NONE);
            Due.is("all over, seed " + seed, x.drawn(seed, 1), 63);
            for (int p = 5; p >= 0; p--) {
                x.grow(p, 99 - DRAWS[i][p]);
                Due.is("caught at " + p + ", seed " + seed, x.drawn(seed, 0), 2 * p);
                Due.is("over then, seed " + seed, x.drawn(seed, 1), (1 << p) - 1);
            }
            Due.is("nothing happens", x.now(0), 0);
            Due.is("no acts", x.count(6), 0);
        }
        // one brings five children: who is caught stays where he was, and the child with him
        OnePassport flock = Tell.told("family loaf 9;" + OPEN + ADULT + CHILD.repeat(5));
        caught(flock, 38, 1, 2, 2);
        caught(flock, 39, 1, 0, 0);
        caught(flock, 14, 1, 2, 2);
        caught(flock, 10, 1999999999, 3, 7);
        caught(flock, 33, 1999999999, 3, 7);
        caught(flock, 34, 1999999999, 0, 0);
        caught(flock, 1, 1000000000, 1, 3);
        caught(flock, 36, 1000000000, 1, 3);
        caught(flock, 37, 1000000000, 0, 0);
        caught(flock, 0, 1000000000, NONE, 63);
    }

    private static void caught(OnePassport x, int risk, int seed, int at, int over) {
        x.grow(0, 100 - risk);
        Due.is("risk " + risk + ", seed " + seed, x.drawn(seed, 0), at);
        Due.is("over, risk " + risk + ", seed " + seed, x.drawn(seed, 1), over);
    }

    private static void drawnOfNone() {
        int[] noSeed = {LEAST, LEAST + 1, -2, -1, 2000000001, 2000000002, GREATEST};
        int[] noWhat = {LEAST, -2, -1, 2, 3, GREATEST};
        OnePassport no = Tell.told(STRANGERS);
        Whole.stays("a trip there isn't", x -> {
            Due.promise(50);
            for (int seed : noSeed) {
                for (int what = -1; what < 3; what++) Due.is("drawn(" + seed + ", " + what + ")", x.drawn(seed, what), -2);
            }
            for (int what : noWhat) {
                for (int seed : new int[] {0, 2000000000}) Due.is("drawn(" + seed + ", " + what + ")", x.drawn(seed, what), -2);
            }
            Due.promise(51);
            for (int seed : noSeed) {
                for (int n : new int[] {0, 1, 20, 21}) Due.is("luck(" + seed + ", " + n + ")", x.luck(seed, n), -2);
            }
            for (int n : new int[] {LEAST, -1, 0, 21, 22, GREATEST}) Due.is("luck(0, " + n + ")", x.luck(0, n), -2);
            x.drawn(0, 0);
            x.luck(0, 20);
        });
        for (int what = -1; what < 3; what++) {
            Due.promise(50);
            Due.is("it can't come", no.drawn(0, what), -2);
            Due.promise(51);
            Due.is("it can't come", no.luck(0, what + 1), -2);
        }
        Whole.staysWithoutFamily("trips", x -> {
            Due.promise(50);
            for (int what = -1; what < 3; what++) Due.is("of none", x.drawn(0, what), -2);
            Due.promise(51);
            for (int n : new int[] {0, 1, 20, 21}) Due.is("of none", x.luck(0, n), -2);
        });
    }

    private static void luck() {
        Due.promise(51);
        OnePassport x = Tell.told(ALONE);
        for (int risk : new int[] {0, 1, 4, 5, 50, 51, 94, 95, 98, 99, 100}) {
            x.grow(0, 100 - risk);
            int low = 0, high = 0;
            for (int n = 1; n <= 20; n++) {
                low += LOW[n - 1] >= risk ? 1 : 0;
                high += HIGH[n - 1] >= risk ? 1 : 0;
                if (n > 2 && n < 19) continue;
                Due.is("risk " + risk + ", luck(0, " + n + ")", x.luck(0, n), low);
                Due.is("risk " + risk + ", luck(2000000000, " + n + ")", x.luck(2000000000, n), high);
            }
            Due.is("from another seed, risk " + risk, x.luck(1, 1), LOW[1] >= risk ? 1 : 0);
            Due.is("the last but one, risk " + risk, x.luck(1999999999, 1), 33 >= risk ? 1 : 0);
        }
        for (int n : new int[] {LEAST, -1, 0, 21, GREATEST}) Due.is("luck(0, " + n + ")", x.luck(0, n), -2);
        x.cross(0, NONE, 0);
        Due.is("at the end", x.luck(0, 20), 20);
    }

    private static void grow() {
        Due.promise(52);
        OnePassport x = Tell.told("family loaf 1;" + OPEN + ADULT.repeat(6));
        int was = 0;
        for (int like : new int[] {100, 0, 1, 99, 99, 100}) {
            Due.is("grow(5, " + like + ")", x.grow(5, like), was);
            Due.is("like", x.person(5, 0), like);
            Due.is("risk", x.risk(5, 0), 100 - like);
            Due.is("surest()", x.surest(), 600 - like);
            was = like;
        }
        for (int p = 0; p < 5; p++) Due.is("another stays " + p, x.person(p, 0), 0);
        Whole.stays("a like there isn't", y -> {
            for (int p : NO_PERSON) {
                for (int like : new int[] {-1, 0, 100, 101}) Due.is("grow(" + p + ", " + like + ")", y.grow(p, like), -2);
            }
            for (int like : NO_HUNDREDTH) {
                for (int p = 0; p < 6; p++) Due.is("grow(" + p + ", " + like + ")", y.grow(p, like), -2);
            }
            Due.is("as it was", y.grow(3, 0), 0);
        });
        Due.is("person 1 of one", Tell.told(ALONE).grow(1, 1), -2);
        Whole.staysWithoutFamily("grow", y -> Due.is("grow of none", y.grow(0, 0), -2));
        OnePassport acts = Tell.told(ALONE);
        acts.cross(0, NONE, 0);
        acts.grow(0, 100);
        Due.is("of what was done too", acts.now(4), 0);
        acts.anew();
        Due.is("from now on", acts.person(0, 0), 100);
        Tell.family(acts, ALONE);
        Due.is("till another family", acts.person(0, 0), 0);
    }

    private static void guard() {
        Due.promise(53);
        OnePassport x = Tell.told("family loaf 1;" + OPEN + OPEN + ADULT);
        int was = 100;
        for (int strict : new int[] {0, 100, 1, 99, 99, 100}) {
            Due.is("guard(1, " + strict + ")", x.guard(1, strict), was);
            Due.is("strict", x.post(1, 0), strict);
            Due.is("risk", x.risk(0, 1), strict);
            Due.is("surest()", x.surest(), strict);
            was = strict;
        }
        Due.is("the other stays", x.post(0, 0), 100);
        Whole.stays("a strict there isn't", y -> {
            for (int q : NO_POST) {
                for (int strict : new int[] {-1, 0, 100, 101}) Due.is("guard(" + q + ", " + strict + ")", y.guard(q, strict), -2);
            }
            for (int strict : NO_HUNDREDTH) {
                for (int q = 0; q < 2; q++) Due.is("guard(" + q + ", " + strict + ")", y.guard(q, strict), -2);
            }
            Due.is("as it was", y.guard(0, 50), 50);
        });
        Due.is("post 1 of one", Tell.told(ALONE).guard(1, 1), -2);
        Due.is("no posts", Tell.told("family loaf 1;" + ADULT).guard(0, 1), -2);
        Whole.staysWithoutFamily("guard", y -> Due.is("guard of none", y.guard(0, 0), -2));
    }

    private static void stay() {
        Due.promise(54);
        OnePassport x = Tell.told("family loaf 1;" + OPEN + ADULT.repeat(6));
        int stay = 0;
        for (int p = 5; p >= 0; p--) {
            Due.is("stay(" + p + ", 0) as it is", x.stay(p, 0), 0);
            Due.is("stay(" + p + ", 1)", x.stay(p, 1), 0);
            Due.is("stay(" + p + ", 1) once more", x.stay(p, 1), 1);
            stay++;
            Due.is("stays", x.person(p, 3), 1);
            Due.is("how many", x.count(4), stay);
            Due.is("days()", x.days(), stay == 6 ? 0 : 2 * (6 - stay) - 1);
            Due.is("hopeful() as states()", x.hopeful(), x.states());
        }
        Due.is("stay(0, 0)", x.stay(0, 0), 1);
        Due.is("days()", x.days(), 1);
        Whole.stays("a stay there isn't", y -> {
            for (int p : NO_PERSON) {
                for (int is = -1; is < 3; is++) Due.is("stay(" + p + ", " + is + ")", y.stay(p, is), -2);
            }
            for (int is : new int[] {LEAST, -2, -1, 2, 3, GREATEST}) {
                for (int p = 0; p < 6; p++) Due.is("stay(" + p + ", " + is + ")", y.stay(p, is), -2);
            }
            Due.is("as it was", y.stay(5, 1), 1);
        });
        Due.is("person 1 of one", Tell.told(ALONE).stay(1, 1), -2);
        Whole.staysWithoutFamily("stay", y -> Due.is("stay of none", y.stay(0, 0), -2));
        OnePassport child = Tell.told("family loaf 1;" + OPEN + ADULT + CHILD);
        child.cross(0, 1, 0);
        Due.is("the end", child.days(), 0);
        Due.is("a child", child.stay(1, 1), 0);
        Due.is("it has to come back", child.days(), 2);
        Due.is("the first of two as bad", child.worst(), 0);
    }

    private static void count() {
        Due.promise(55);
        OnePassport x = Tell.told("family loaf 9 compare;" + OPEN + OPEN + "person like 0 nose 0 child stays;".repeat(6));
        for (int i = 0; i < 41; i++) x.loaf();
        for (int i = 0; i < 31; i++) x.feed(0, 0, 0, 0, 0);
        for (int slot = 0; slot < 4; slot++) x.row(slot, 3, slot);
        int[] most = {6, 2, 9, 6, 6, 1, 40, 9, 600, 4};
        for (int what = 0; what < 10; what++) Due.is("count(" + what + ") at most", x.count(what), most[what]);
        int[] others = {LEAST, -2, -1, 10, 11, GREATEST};
        for (int what : others) Due.is("count(" + what + ")", x.count(what), NONE);
        x = Tell.told("family loaf 1;");
        int[] least = {0, 0, 1, 0, 0, 0, 0, 1, 0, 0};
        for (int what = 0; what < 10; what++) Due.is("count(" + what + ") at least", x.count(what), least[what]);
        for (int what : others) {
            Due.is("count(" + what + ")", x.count(what), NONE);
            Due.is("count(" + what + ") of none", new OnePassport().count(what), NONE);
        }
        int[] full = {6, 2, 7, 2, 2, 0, 3, 9, 35, 3};
        Whole.stays("a count there isn't", y -> {
            for (int what : others) Due.is("count(" + what + ")", y.count(what), NONE);
            for (int what = 0; what < 10; what++) Due.is("count(" + what + ")", y.count(what), full[what]);
        });
        x = Whole.full();
        x.stay(4, 0);
        Due.is("who stays now", x.count(4), 1);
        x.undo();
        Due.is("acts now", x.count(6), 2);
        x.end(3);
        Due.is("the tape now", x.count(8), 3);
        x.row(3, 0, 0);
        Due.is("an empty row is one", x.count(9), 4);
        Tell.family(x, "x");
        Due.is("lines behind a fault", x.count(7), 9);
        Due.is("the tape behind a fault", x.count(8), 0);
        x.family();
        int[] none = {0, 0, 0, 0, 0, 0, 0, 0, 0, 4};
        for (int what = 0; what < 10; what++) Due.is("count(" + what + ") without a family", x.count(what), none[what]);
    }

    private static void imagesThereAreNot() {
        int[] others = {LEAST, -2, -1, 3, 4, GREATEST};
        Whole.stays("an image there isn't", x -> {
            for (int k : others) {
                Due.promise(56);
                Due.is("image(" + k + ")", x.image(k), -2);
                Due.promise(57);
                Due.is("back(" + k + ")", x.back(k), -2);
            }
            Due.is("it has nothing", x.back(2), -6);
        });
        Whole.staysWithoutFamily("an image there isn't", x -> {
            for (int k : others) {
                Due.promise(56);
                Due.is("image(" + k + ")", x.image(k), -2);
                Due.promise(57);
                Due.is("back(" + k + ")", x.back(k), -2);
            }
            for (int k = 0; k < 3; k++) Due.is("it has nothing", x.back(k), -6);
        });
    }

    /** The family as it was changed, and the acts; not the tape, the fault, the slots, the other images. */
    private static void whatAnImageKeeps() {
        for (int k = 0; k < 3; k++) {
            OnePassport x = Whole.full();
            x.grow(0, 11);
            x.guard(1, 12);
            x.stay(0, 1);
            Due.promise(56);
            Due.is("image(" + k + ")", x.image(k), 0);
            StringBuilder kept = new StringBuilder();
            Whole.family(x, kept);
            x.grow(0, 100);
            x.guard(1, 0);
            x.stay(0, 0);
            x.loaf();
            x.undo();
            x.undo();
            x.cross(0, NONE, 1);
            x.end(0);
            Tell.family(x, "family loaf 3 compare;" + ADULT);
            x.loaf();
            Tell.family(x, "family loaf 77;");
            x.row(3, 2, 5);
            Tell.feed(x, "person");
            Due.promise(57);
            for (int again = 0; again < 2; again++) {
                Due.is("back(" + k + ")", x.back(k), 0);
                StringBuilder is = new StringBuilder();
                Whole.family(x, is);
                Due.same("as image " + k + " has it", is.toString(), kept.toString());
                Due.is("the tape stays", x.count(8), 6);
                Due.is("the fault stays", x.fault(0), 2);
                Due.is("its place stays", x.fault(1), 12);
                Due.is("the slots stay", x.count(9), 4);
                Due.is("their rows too", x.judge(3), 5);
                x.grow(0, 100);
                x.guard(1, 0);
                x.stay(3, 1);
                x.anew();
            }
            int[] has = {0, 0, -6};
            for (int other = 0; other < 3; other++) {
                if (other != k) Due.is("the other " + other, x.back(other), has[other]);
            }
        }
    }

    /** What was searched ahead of back() tells nothing of what is then. */
    private static void searchedAheadOfBack() {
        Due.promise(57);
        OnePassport x = Tell.told("family loaf 1;post strict 0 keen 9 looks 3;post strict 5 keen 1 looks 0;" + ADULT + "person like 0 nose 1;" + CHILD);
        x.cross(0, 2, 0);
        x.cross(0, NONE, 1);
        x.loaf();
        x.cross(2, NONE, 0);
        String first = Whole.searches(x);
        x.image(0);
        Tell.family(x, "family loaf 1 compare;" + OPEN + OPEN + "person like 0 nose 5 stays;" + ADULT + CHILD + ADULT);
        x.cross(3, NONE, 1);
        x.loaf();
        x.cross(1, NONE, 1);
        x.cross(1, NONE, 0);
        String second = Whole.searches(x);
        x.image(2);
        x.back(0);
        Due.same("the first", Whole.searches(x), first);
        x.back(2);
        Due.same("the second", Whole.searches(x), second);
        x.anew();
        x.back(0);
        Due.same("the first again", Whole.searches(x), first);
    }

    private static void imagesOfBounds() {
        OnePassport x = new OnePassport();
        Due.promise(56);
        for (int k = 0; k < 3; k++) Due.is("image(" + k + ") of no family", x.image(k), 0);
        Tell.family(x, ALONE);
        for (int i = 0; i < 40; i++) x.cross(0, NONE, 0);
        Due.is("image of forty acts", x.image(1), 0);
        Due.promise(57);
        Due.is("back to no family", x.back(0), 0);
        Due.is("there is none", x.count(7), 0);
        Due.is("none", x.now(0), -2);
        Due.is("no acts", x.count(6), 0);
        Due.is("nobody", x.person(0, 0), -2);
        Due.is("back to forty", x.back(1), 0);
        Due.is("forty", x.count(6), 40);
        Due.is("the last", x.act(39), 0);
        Due.is("days", x.now(2), 40);
        Due.is("the last stamp", x.stamp(39), 1);
        Due.is("no more", x.loaf(), -5);
        Due.is("taken back", x.undo(), 39);
        Due.is("over", x.now(0), 1);
        Due.promise(56);
        Due.is("another in its place", x.image(1), 0);
        x.anew();
        Due.promise(57);
        Due.is("back to 39", x.back(1), 0);
        Due.is("39", x.count(6), 39);
        Due.is("days()", x.days(), 0);
        Due.is("none still", x.back(2), 0);
        Due.is("none still", x.count(0), 0);
    }
}
