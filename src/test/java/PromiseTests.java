/** Each promise by hand: ordinary inputs, the edges that the document names, wrong inputs. */
public final class PromiseTests {
    /** Two who show the passport, a child, one post: over by 0, the loaf, 31 in five days. */
    private static final String A = "family loaf 3;person like 80 nose 2;person like 50 nose 4;"
        + "person like 90 nose 9 child;post strict 50 keen 2 looks 0;";
    /** Two posts, the second looks at one stamp; the last one stays. */
    private static final String B = "family loaf 2;post strict 100 keen 1 looks 0;post strict 10 keen 9 looks 1;"
        + "person like 60 nose 0;person like 70 nose 3;person like 55 nose 1 stays;";
    private static final String ALONE = "family loaf 1;person like 0 nose 0;post strict 100 keen 0 looks 0;";
    private static final String STRANGERS = "family loaf 2;person like 10 nose 1;person like 30 nose 5;"
        + "post strict 40 keen 0 looks 0;";
    private static final int NONE = OnePassport.NONE;

    private static int promise;
    private static int asked = 0;
    private static int wrong = 0;

    private static void due(String what, long got, long want) {
        asked++;
        if (got != want) {
            wrong++;
            System.out.println("promise " + promise + ": " + what + " answered " + got + ", due is " + want);
        }
    }

    public static void main(String[] args) {
        theTape();
        reading();
        faults();
        whoAndWhat();
        whatIsNow();
        crossing();
        takenBack();
        whatCanBe();
        rowsToTheEnd();
        chances();
        statesAndSets();
        lostOnTheWay();
        judgedRows();
        stampRows();
        changes();
        trips();
        growing();
        counts();
        images();
        slots();
        System.out.println(asked + " asked, " + wrong + " wrong");
        if (wrong != 0) {
            System.exit(1);
        }
    }

    private static void theTape() {
        promise = 1;
        OnePassport x = new OnePassport();
        due("NONE", OnePassport.NONE, -1);
        due("count(7)", x.count(7), 0);
        due("now(0)", x.now(0), -2);
        promise = 2;
        due("feed", x.feed(0x66616D69, 0x6C79206C, 0x6F616620, 0x343B2020, 0x20202020), 20);
        due("family() of the fed", x.family(), 1);
        due("loaf", x.count(2), 4);
        for (int i = 1; i <= 30; i++) due("feed " + i, x.feed(-1, 0, 1, 2, 3), 20 * i);
        due("feed over 600", x.feed(0, 0, 0, 0, 0), NONE);
        due("none came", x.count(8), 600);
        promise = 3;
        due("end(-1)", x.end(-1), NONE);
        due("end(601)", x.end(601), NONE);
        due("all stays", x.count(8), 600);
        due("end(600)", x.end(600), 600);
        due("end(581)", x.end(581), 581);
        due("feed over 600 by one", x.feed(0, 0, 0, 0, 0), NONE);
        due("end(580)", x.end(580), 580);
        due("feed to 600", x.feed(0, 0, 0, 0, 0), 600);
        due("end(0)", x.end(0), 0);
        due("end(1) of nothing", x.end(1), NONE);
    }

    private static void reading() {
        promise = 4;
        OnePassport x = new OnePassport();
        due("A", Tell.family(x, A), 5);
        due("the tape is empty", x.count(8), 0);
        x.cross(0, NONE, 0);
        due("a fault", Tell.family(x, "family loaf 3"), -4);
        due("the tape is empty behind a fault", x.count(8), 0);
        due("lines stay", x.count(7), 5);
        due("acts stay", x.count(6), 1);
        due("over stays", x.now(0), 1);
        due("another in its place", Tell.family(x, B), 6);
        due("all here", x.now(0), 0);
        due("here is the passport", x.now(1), 0);
        due("no stamps", x.now(3), 0);
        due("no acts", x.count(6), 0);
        due("nobody remembered", x.post(0, 3), NONE);
        due("nothing", x.family(), 0);
        due("no family then", x.now(0), -2);
        due("no persons then", x.count(0), 0);
        due("no loaf then", x.count(2), 0);
        due("blanks alone", Tell.family(x, " \n \n "), 0);
        due("no fault of blanks", x.fault(0), 0);
        due("digits stand at words", Tell.family(x, "family loaf9compare;person like007nose 3stays child;"), 2);
        due("like", x.person(0, 0), 7);
        due("compare", x.count(5), 1);
        due("stays", x.person(0, 3), 1);
        due("child", x.person(0, 2), 1);
        due("family alone", Tell.family(x, "family\nloaf 1\n;\n"), 1);
        due("all bounds", Tell.family(x, "family loaf 9;person like 100 nose 9;person like 0 nose 0;"
            + "post strict 100 keen 9 looks 3;post strict 0 keen 0 looks 0;"), 5);
        due("six and two", Tell.family(x, "family loaf 1;" + "person like 1 nose 1;".repeat(6)
            + "post strict 1 keen 1 looks 1;".repeat(2)), 9);
    }

    private static void fault(String text, int which, int place) {
        OnePassport x = new OnePassport();
        due("family() of " + text, Tell.family(x, text), -4);
        due("fault(0) of " + text, x.fault(0), which);
        due("fault(1) of " + text, x.fault(1), place);
    }

    private static void faults() {
        promise = 5;
        OnePassport x = new OnePassport();
        due("fault(0) ahead of any", x.fault(0), 0);
        due("fault(1) ahead of any", x.fault(1), NONE);
        due("fault(2)", x.fault(2), NONE);
        due("fault(-1)", x.fault(-1), NONE);
        Tell.family(x, "family loaf 10;");
        due("fault(0)", x.fault(0), 2);
        due("fault(1)", x.fault(1), 12);
        Tell.family(x, A);
        due("fault(0) without", x.fault(0), 0);
        due("fault(1) without", x.fault(1), NONE);
        fault("family loaf 3", 1, 13);
        fault("family loaf 3  \n", 1, 16);
        fault("family", 1, 6);
        fault(";", 1, 0);
        fault("  person like 1 nose 1;", 1, 2);
        fault("post strict 1 keen 1 looks 1;", 1, 0);
        fault("families loaf 3;", 1, 0);
        fault("xamily loaf 3;", 1, 0);
        fault("family 3;", 1, 7);
        fault("family loaf;", 1, 11);
        fault("family loaf 3;qerson like 1 nose 1;", 1, 14);
        fault("family loaf 3;person 1 nose 1;", 1, 21);
        fault("family loaf 3;person like 1 1;", 1, 28);
        fault("family loaf 3;post strict 1 1 looks 1;", 1, 28);
        fault("famil loaf 3;", 1, 0);
        fault("family loaf 0;", 2, 12);
        fault("family loaf 00099;", 2, 12);
        fault("family loaf 99999999999999999999991;", 2, 12);
        fault("family loaf 4294967297;", 2, 12);
        fault("family loaf compare;", 1, 12);
        fault("family loaf 3 compare compare;", 1, 22);
        fault("family loaf 3 3;", 1, 14);
        fault("family loaf 3;;", 1, 14);
        fault("family loaf 3;family loaf 3;", 1, 14);
        fault("family loaf 3;\tperson", 1, 14);
        fault("family loaf 3;Person", 1, 14);
        fault("family loaf -3;", 1, 12);
        fault("family loaf 3\u00e9;", 1, 13);
        fault("family loaf 3;person like 101 nose 3;", 2, 26);
        fault("family loaf 3;person like 100 nose 10;", 2, 35);
        fault("family loaf 3;person nose 1 like 1;", 1, 21);
        fault("family loaf 3;person like 1 nose 1 child child;", 1, 41);
        fault("family loaf 3;person like 1 nose 1 stays child stays;", 1, 47);
        fault("family loaf 3;person like 1 nose 1 stay;", 1, 35);
        fault("family loaf 3;post strict 101 keen 1 looks 1;", 2, 26);
        fault("family loaf 3;post strict 1 keen 10 looks 1;", 2, 33);
        fault("family loaf 3;post strict 1 keen 1 looks 4;", 2, 41);
        fault("family loaf 3;post strict 1 keen 1;", 1, 34);
        String six = "family loaf 1;" + "person like 1 nose 1;".repeat(6);
        fault(six + " person like 1 nose 1;", 3, six.length() + 1);
        fault(six + "person", 3, six.length());
        String two = "family loaf 1;" + "post strict 1 keen 1 looks 1;".repeat(2);
        fault(two + "post ;", 3, two.length());
        fault("family loaf 0; 7;", 2, 12);
        Tell.feed(x, new byte[] {0});
        x.family();
        due("a byte 0", x.fault(0), 1);
    }

    private static void whoAndWhat() {
        OnePassport x = Tell.told(B);
        promise = 6;
        due("like", x.person(1, 0), 70);
        due("nose", x.person(1, 1), 3);
        due("no child", x.person(1, 2), 0);
        due("stays", x.person(2, 3), 1);
        due("does not stay", x.person(1, 3), 0);
        due("not over", x.person(1, 4), 0);
        x.cross(1, NONE, 1);
        due("over", x.person(1, 4), 1);
        due("another not", x.person(0, 4), 0);
        due("a child", Tell.told(A).person(2, 2), 1);
        due("what 5", x.person(0, 5), -2);
        due("what -1", x.person(0, -1), -2);
        due("person 3", x.person(3, 0), -2);
        due("person -1", x.person(-1, 0), -2);
        promise = 7;
        due("strict", x.post(1, 0), 10);
        due("keen", x.post(1, 1), 9);
        due("looks", x.post(1, 2), 1);
        due("remembers", x.post(1, 3), 1);
        due("remembers nobody", x.post(0, 3), NONE);
        due("what 4", x.post(0, 4), -2);
        due("what -1", x.post(0, -1), -2);
        due("post 2", x.post(2, 0), -2);
        due("post -1", x.post(-1, 0), -2);
        due("post 1 of one", Tell.told(A).post(1, 0), -2);
        x.undo();
        due("forgotten again", x.post(1, 3), NONE);
        OnePassport y = Tell.told("family loaf 1 compare;post strict 1 keen 9 looks 0;post strict 1 keen 9 looks 0;"
            + "person like 1 nose 1;person like 2 nose 9;");
        y.cross(1, NONE, 0);
        due("by compare", y.post(1, 3), 1);
        promise = 8;
        x = Tell.told(A);
        due("risk(0, 0)", x.risk(0, 0), 10);
        due("risk(1, 0)", x.risk(1, 0), 25);
        due("of a child", x.risk(2, 0), 5);
        due("cut", Tell.told("family loaf 1;person like 67 nose 1;post strict 50 keen 1 looks 1;").risk(0, 0), 16);
        due("all", Tell.told(ALONE).risk(0, 0), 100);
        due("person 3", x.risk(3, 0), -2);
        due("person -1", x.risk(-1, 0), -2);
        due("post 1", x.risk(0, 1), -2);
        due("post -1", x.risk(0, -1), -2);
        promise = 9;
        due("behind nobody, no children", x.after(NONE, 0), 3);
        due("behind 0", x.after(0, 0), 3);
        due("behind a nose of 9", x.after(2, 0), 0);
        due("keen 1 behind 0", Tell.told(B).after(0, 0), 5);
        due("keen 1 behind 1", Tell.told(B).after(1, 0), 2);
        due("keen 9", Tell.told(B).after(1, 1), 7);
        due("himself by keen 0", Tell.told(STRANGERS).after(0, 0), 1);
        due("person -2", x.after(-2, 0), -2);
        due("person 3", x.after(3, 0), -2);
        due("post 1", x.after(0, 1), -2);
    }

    private static void whatIsNow() {
        OnePassport x = Tell.told(A);
        promise = 10;
        x.cross(0, 2, 0);
        x.loaf();
        x.cross(1, NONE, 0);
        due("over", x.now(0), 7);
        due("the passport", x.now(1), 1);
        due("days", x.now(2), 5);
        due("stamps", x.now(3), 2);
        due("risk", x.now(4), 35);
        x.grow(0, 100);
        due("risk by what is told now", x.now(4), 25);
        x.guard(0, 100);
        due("risk by the post", x.now(4), 50);
        due("what 5", x.now(5), -2);
        due("what -1", x.now(-1), -2);
        due("no family", new OnePassport().now(2), -2);
        promise = 11;
        due("stamp(0)", x.stamp(0), 0);
        due("stamp(1)", x.stamp(1), 0);
        due("stamp(2)", x.stamp(2), NONE);
        due("stamp(-1)", x.stamp(-1), NONE);
        OnePassport y = Tell.told(B);
        y.cross(1, NONE, 1);
        y.cross(1, NONE, 1);
        due("over at the second", y.stamp(0), 10);
        due("back at the second", y.stamp(1), 11);
        y.undo();
        due("taken back", y.stamp(1), NONE);
        due("no family", new OnePassport().stamp(0), -2);
        promise = 12;
        due("over, over", x.lies(), 1);
        x.cross(0, NONE, 0);
        due("back is no lie", x.lies(), 1);
        x.loaf();
        x.cross(1, NONE, 0);
        due("back, back", x.lies(), 2);
        due("none", y.lies(), 0);
        due("no family", new OnePassport().lies(), -2);
    }

    private static void crossing() {
        OnePassport x = Tell.told(A);
        promise = 13;
        due("it can", x.why(0, NONE, 0), 0);
        due("with a child", x.why(0, 2, 0), 0);
        due("a child", x.why(2, NONE, 0), 2);
        due("a child with itself", x.why(2, 2, 0), 2);
        due("no child", x.why(0, 1, 0), 3);
        due("himself", x.why(0, 0, 0), 3);
        due("person 3", x.why(3, NONE, 0), -2);
        due("person -1", x.why(-1, NONE, 0), -2);
        due("child 3", x.why(0, 3, 0), -2);
        due("child -2", x.why(0, -2, 0), -2);
        due("post 1", x.why(0, NONE, 1), -2);
        due("post -1", x.why(0, NONE, -1), -2);
        x.cross(0, 2, 0);
        due("he is there no more", x.why(1, NONE, 0), 1);
        due("1 ahead of 3", x.why(1, 1, 0), 1);
        x.loaf();
        due("a child on the other side", x.why(2, NONE, 0), 1);
        due("the child is not there", x.why(1, 2, 0), 3);
        due("noses near enough", x.why(1, NONE, 0), 0);
        OnePassport y = Tell.told(B);
        y.cross(0, NONE, 0);
        y.loaf();
        due("noses", y.why(1, NONE, 0), 4);
        due("the other post knows nobody, but looks", y.why(1, NONE, 1), 5);
        due("noses as near as keen", y.why(2, NONE, 0), 0);
        OnePassport z = Tell.told("family loaf 1;post strict 0 keen 0 looks 1;person like 0 nose 0;person like 0 nose 1;");
        z.cross(0, NONE, 0);
        z.loaf();
        due("4 ahead of 5", z.why(1, NONE, 0), 4);
        due("no family", new OnePassport().why(0, NONE, 0), -2);
        looking();
        promise = 14;
        due("DAYS", x.cross(1, NONE, 0), 5);
        due("it can't", x.cross(2, NONE, 0), -5);
        due("person 3", x.cross(3, NONE, 0), -2);
        due("child 3", x.cross(0, 3, 0), -2);
        due("post 1", x.cross(0, NONE, 1), -2);
        due("all stays", x.count(6), 3);
        due("back with the child", x.cross(1, 2, 0), 6);
        due("who is over", x.now(0), 1);
        due("the passport is here", x.now(1), 0);
        due("the post remembers him", x.post(0, 3), 1);
        for (int i = 4; i < 40; i++) due("act " + i, x.cross(1, NONE, 0), i + 3);
        due("there were 40", x.cross(1, NONE, 0), -5);
        due("why says it can", x.why(1, NONE, 0), 0);
        due("no such ahead of 40", x.cross(9, NONE, 0), -2);
        due("count", x.count(6), 40);
        x.undo();
        due("39 and one", x.cross(1, NONE, 0), 42);
        promise = 15;
        due("there were 40", x.loaf(), -5);
        OnePassport w = Tell.told(ALONE.replace("loaf 1", "loaf 9"));
        for (int i = 1; i <= 40; i++) due("loaf " + i, w.loaf(), 9 * i);
        due("there were 40 loafs", w.loaf(), -5);
        due("no stamp", w.now(3), 0);
        due("nobody over", w.now(0), 0);
        due("twenty times back", w.now(1), 0);
        w.undo();
        due("the other side", w.now(1), 1);
        due("no family", new OnePassport().loaf(), -2);
    }

    /** Posts that look at one, two and three stamps. */
    private static void looking() {
        int[][] due = {{0, 0, 0}, {5, 0, 0}, {5, 5, 0}, {5, 5, 5}};
        for (int looks = 0; looks < 4; looks++) {
            OnePassport x = Tell.told("family loaf 1;post strict 0 keen 9 looks 0;post strict 0 keen 9 looks " + looks
                + ";person like 0 nose 0;person like 0 nose 0;");
            due("no stamps, looks " + looks, x.why(0, NONE, 1), 0);
            due("no stamps, acts, looks " + looks, x.acts(), 5);
            x.cross(0, NONE, 0);
            due("over, and back, looks " + looks, x.why(0, NONE, 1), 0);
            x.loaf();
            due("over, over, looks " + looks, x.why(1, NONE, 1), due[looks][0]);
            due("over, over, acts, looks " + looks, x.acts(), due[looks][0] == 0 ? 3 : 2);
            x.cross(1, NONE, 0);
            due("over, over, back, looks " + looks, x.why(1, NONE, 1), due[looks][1]);
            due("over, over, back, acts, looks " + looks, x.acts(), due[looks][1] == 0 ? 5 : 3);
            x.cross(1, NONE, 0);
            due("over, over, back, over, looks " + looks, x.why(1, NONE, 1), due[looks][2]);
            due("over, over, back, over, acts, looks " + looks, x.acts(), due[looks][2] == 0 ? 3 : 2);
            x.cross(1, NONE, 0);
            due("over, over, back, over, back, looks " + looks, x.why(1, NONE, 1), 0);
        }
    }

    private static void takenBack() {
        promise = 16;
        OnePassport x = Tell.told(A);
        due("none", x.undo(), -5);
        x.cross(0, 2, 0);
        x.loaf();
        due("undo the loaf", x.undo(), 1);
        due("the passport", x.now(1), 1);
        due("days", x.now(2), 1);
        due("undo the crossing", x.undo(), 0);
        due("over", x.now(0), 0);
        due("stamps", x.now(3), 0);
        due("remembers", x.post(0, 3), NONE);
        due("no family", new OnePassport().undo(), -2);
        promise = 17;
        due("none", x.anew(), 0);
        x.cross(0, 2, 0);
        x.loaf();
        x.grow(0, 30);
        due("two", x.anew(), 2);
        due("over", x.now(0), 0);
        due("days", x.now(2), 0);
        due("acts", x.count(6), 0);
        due("what was changed stays", x.person(0, 0), 30);
        due("no family", new OnePassport().anew(), -2);
        promise = 18;
        x.cross(0, 2, 0);
        x.loaf();
        x.cross(1, NONE, 0);
        due("act(0)", x.act(0), 30);
        due("act(1)", x.act(1), 200);
        due("act(2)", x.act(2), 1);
        due("act(3)", x.act(3), NONE);
        due("act(-1)", x.act(-1), NONE);
        OnePassport y = Tell.told(B);
        y.cross(2, NONE, 1);
        due("at the second post", y.act(0), 102);
        due("no family", new OnePassport().act(0), -2);
    }

    private static void whatCanBe() {
        promise = 19;
        OnePassport x = Tell.told(A);
        due("acts()", x.acts(), 5);
        promise = 20;
        int[] all = {0, 1, 30, 31, 200, NONE};
        for (int i = 0; i < all.length; i++) due("may(" + i + ")", x.may(i), all[i]);
        due("may(-1)", x.may(-1), NONE);
        x.cross(0, 2, 0);
        int[] then = {0, 30, 200, NONE};
        for (int i = 0; i < then.length; i++) due("then may(" + i + ")", x.may(i), then[i]);
        due("no family", new OnePassport().may(0), -2);
        promise = 19;
        due("then acts()", x.acts(), 3);
        x.loaf();
        due("acts() without the child", x.acts(), 2);
        due("the loaf alone", Tell.told("family loaf 1;").acts(), 1);
        due("no family", new OnePassport().acts(), -2);
        OnePassport y = Tell.told(B);
        due("two posts", y.acts(), 7);
        due("the second post's are the greater", y.may(3), 100);
        y.cross(0, NONE, 0);
        y.loaf();
        due("noses and stamps", y.acts(), 2);
        due("2 alone", y.may(0), 2);
    }

    private static void rowsToTheEnd() {
        OnePassport x = Tell.told(A);
        OnePassport no = Tell.told(STRANGERS);
        OnePassport empty = new OnePassport();
        promise = 21;
        due("days()", x.days(), 5);
        due("it can't come", no.days(), NONE);
        due("no family", empty.days(), -2);
        due("nobody", Tell.told("family loaf 4;").days(), 0);
        due("all stay", Tell.told("family loaf 4;person like 1 nose 1 stays;").days(), 0);
        promise = 22;
        int[] plan = {0, 200, 31, NONE};
        for (int i = 0; i < plan.length; i++) due("plan(" + i + ")", x.plan(i), plan[i]);
        due("plan(-1)", x.plan(-1), NONE);
        due("it can't come", no.plan(0), NONE);
        due("no family", empty.plan(0), -2);
        promise = 23;
        due("surest()", x.surest(), 35);
        due("it can't come", no.surest(), NONE);
        due("no family", empty.surest(), -2);
        // At the mild post the two can't cross one behind the other: one of them takes the strict one.
        OnePassport y = Tell.told("family loaf 4;post strict 100 keen 9 looks 0;post strict 10 keen 0 looks 0;"
            + "person like 50 nose 0;person like 40 nose 5;person like 0 nose 7 child;");
        due("two posts, surest()", y.surest(), 56);
        due("two posts, days()", y.days(), 6);
        promise = 24;
        int[] surely = {0, 200, 131, NONE};
        for (int i = 0; i < 4; i++) due("surely(" + i + ")", y.surely(i), surely[i]);
        due("surely(-1)", y.surely(-1), NONE);
        due("it can't come", no.surely(0), NONE);
        due("no family", empty.surely(0), -2);
        promise = 25;
        due("slowly() as the first", Tell.told(A).slowly(), 5);
        due("slowly()", y.slowly(), 6);
        due("it can't come", no.slowly(), NONE);
        due("no family", empty.slowly(), -2);
        sureAndSlow();
        promise = 26;
        due("crossings()", x.crossings(), 2);
        due("it can't come", no.crossings(), NONE);
        due("no family", empty.crossings(), -2);
        due("now", Tell.told("family loaf 4;").crossings(), 0);
        promise = 27;
        due("moves() as the first", Tell.told(A).moves(), 3);
        due("moves()", x.moves(), 3);
        due("it can't come", no.moves(), NONE);
        due("no family", empty.moves(), -2);
        due("now", Tell.told("family loaf 4;").moves(), 0);
        x.cross(0, 2, 0);
        x.loaf();
        promise = 21;
        due("from now on", x.days(), 1);
        promise = 22;
        due("from now on", x.plan(0), 1);
        promise = 27;
        due("from now on", x.moves(), 1);
        x.cross(1, NONE, 0);
        due("at the end", x.moves(), 0);
        promise = 22;
        due("at the end", x.plan(0), NONE);
    }

    private static void sureAndSlow() {
        OnePassport x = Tell.told("family loaf 2;post strict 100 keen 9 looks 0;"
            + "person like 90 nose 0;person like 20 nose 0 stays;person like 0 nose 0 child;person like 0 nose 0 child;");
        promise = 21;
        due("0 over, back, over", x.days(), 3);
        promise = 22;
        due("plan(0)", x.plan(0), 30);
        due("plan(1)", x.plan(1), 0);
        due("plan(2)", x.plan(2), 40);
        promise = 23;
        due("surest()", x.surest(), 30);
        promise = 26;
        due("crossings()", x.crossings(), 3);
        x.grow(0, 0);
        x.grow(1, 95);
        // 1, who stays, brings one child and comes back; 0 brings the other one.
        promise = 23;
        due("surest() by 1", x.surest(), 110);
        promise = 24;
        due("surely(0) by 1", x.surely(0), 31);
        due("surely(1) by 1", x.surely(1), 1);
        promise = 22;
        due("plan(0) all the same", x.plan(0), 30);
        // At the mild post 1 may cross behind 2 (who stays), not behind 0: it is surer that 2 goes over and back.
        OnePassport y = Tell.told("family loaf 2;post strict 100 keen 9 looks 0;post strict 10 keen 1 looks 0;"
            + "person like 0 nose 0;person like 0 nose 2;person like 90 nose 1 stays;");
        promise = 21;
        due("strictly", y.days(), 4);
        promise = 23;
        due("mildly", y.surest(), 22);
        promise = 24;
        int[] mildly = {100, 200, 102, 102, 101, NONE};
        for (int i = 0; i < 6; i++) due("mildly(" + i + ")", y.surely(i), mildly[i]);
        promise = 25;
        due("mildly, days", y.slowly(), 6);
        promise = 26;
        due("strictly, crossings", y.crossings(), 2);
        fastOrLean();
    }

    /** Two crossings with the passport sent take eleven days, four without take four. */
    private static void fastOrLean() {
        OnePassport x = Tell.told("family loaf 9;post strict 73 keen 2 looks 2;post strict 28 keen 1 looks 0;"
            + "person like 54 nose 2;person like 9 nose 5 child stays;person like 72 nose 0 stays;person like 10 nose 0 stays;");
        x.cross(2, NONE, 1);
        x.loaf();
        promise = 21;
        due("without a loaf", x.days(), 4);
        promise = 22;
        int[] plan = {103, 102, 0, 3, NONE};
        for (int i = 0; i < 5; i++) due("without a loaf(" + i + ")", x.plan(i), plan[i]);
        promise = 26;
        due("with a loaf", x.crossings(), 2);
        promise = 27;
        due("with a loaf", x.moves(), 3);
    }

    private static void chances() {
        promise = 28;
        OnePassport x = Tell.told(A);
        due("above", x.chance(0), 27);
        due("below", x.chance(1), 40);
        due("what 2", x.chance(2), -2);
        due("what -1", x.chance(-1), -2);
        due("no family", new OnePassport().chance(0), -2);
        due("it is none", Tell.told(STRANGERS).chance(1), NONE);
        OnePassport now = Tell.told("family loaf 4;");
        due("at the end, above", now.chance(0), 1);
        due("at the end, below", now.chance(1), 1);
        OnePassport caught = Tell.told(ALONE);
        due("surely caught, above", caught.chance(0), 0);
        due("surely caught, below", caught.chance(1), 1);
        // One of even so many risks brings child by child: 2 n - 1 crossings.
        String one = "family loaf 9;post strict 100 keen 9 looks 0;person like 1 nose 0;";
        String child = "person like 0 nose 0 child;";
        OnePassport five = Tell.told(one + child.repeat(5));
        due("nine crossings, above", five.chance(0), 1);
        due("nine crossings, below", five.chance(1), 1000000000000000000L);
        OnePassport seven = Tell.told("family loaf 1;post strict 100 keen 9 looks 0;"
            + "person like 2 nose 0;person like 0 nose 0 stays;" + child.repeat(4));
        due("seven crossings, above", seven.chance(0), 1);
        due("seven crossings, below", seven.chance(1), 781250000000L);
        five.cross(0, 1, 0);
        five.cross(0, 1, 0);
        due("from now on nine", five.chance(0), 1);
        five.cross(0, NONE, 0);
        due("from now on ten", five.chance(0), NONE);
    }

    private static void statesAndSets() {
        OnePassport none = new OnePassport();
        OnePassport a = Tell.told(A);
        OnePassport strangers = Tell.told(STRANGERS);
        promise = 29;
        due("no posts", Tell.told("family loaf 4;person like 1 nose 1;").states(), 2);
        due("one alone", Tell.told(ALONE).states(), 10);
        due("strangers", strangers.states(), 18);
        due("no family", none.states(), -2);
        promise = 30;
        due("one alone", Tell.told(ALONE).hopeful(), 10);
        due("strangers", strangers.hopeful(), 0);
        strangers.stay(1, 1);
        due("strangers, one stays", strangers.hopeful(), 10);
        strangers.cross(1, NONE, 0);
        due("from all here on", strangers.hopeful(), 10);
        due("no posts", Tell.told("family loaf 4;person like 1 nose 1;").hopeful(), 0);
        due("no family", none.hopeful(), -2);
        promise = 29;
        due("from all here on", strangers.states(), 18);
        promise = 31;
        int[] till = {0, 1, 1, 5, 2, 1, 1, 5};
        for (int set = 0; set < 8; set++) due("till(" + set + ")", a.till(set), till[set]);
        due("till(8)", a.till(8), -2);
        due("till(-1)", a.till(-1), -2);
        due("never", Tell.told(STRANGERS).till(3), NONE);
        due("no family", none.till(0), -2);
        due("nobody", Tell.told("family loaf 4;").till(0), 0);
        due("nobody's set", Tell.told("family loaf 4;").till(1), -2);
        promise = 32;
        due("over(0)", a.over(0), 1);
        due("over(2)", a.over(2), 1);
        due("over(3)", a.over(3), -2);
        due("over(-1)", a.over(-1), -2);
        due("never, no posts", Tell.told("family loaf 4;person like 1 nose 1;").over(0), NONE);
        a.cross(0, NONE, 0);
        due("he is", a.over(0), 0);
        due("then another", a.over(1), 2);
        promise = 31;
        due("then nobody", a.till(0), 1);
        due("then him", a.till(1), 0);
        promise = 33;
        due("none", a.never(), 0);
        due("the other stranger", strangers.never(), 1);
        strangers.anew();
        due("no stranger yet", strangers.never(), 0);
        due("a child alone", Tell.told("family loaf 1;person like 1 nose 1 child;post strict 0 keen 0 looks 0;").never(), 1);
        due("no family", none.never(), -2);
    }

    private static void lostOnTheWay() {
        OnePassport a = Tell.told(A);
        OnePassport home = Tell.told("family loaf 4;post strict 1 keen 9 looks 0;person like 1 nose 1 stays;"
            + "person like 2 nose 2 stays child;");
        promise = 34;
        int[] lost = {0, 1, 1, 7, NONE};
        for (int n = 0; n < lost.length; n++) due("lost(" + n + ")", a.lost(n), lost[n]);
        due("lost(-1)", a.lost(-1), -2);
        due("no family", new OnePassport().lost(0), -2);
        due("no row", Tell.told(STRANGERS).lost(0), NONE);
        due("at the end", home.lost(0), 0);
        due("not so many", home.lost(1), NONE);
        promise = 35;
        due("all here is worst", a.worst(), 0);
        due("at the end", home.worst(), 0);
        home.cross(0, 1, 0);
        home.cross(0, NONE, 0);
        due("over for the child", home.worst(), 1);
        OnePassport y = Tell.told("family loaf 6;post strict 37 keen 0 looks 0;post strict 17 keen 2 looks 3;"
            + "person like 4 nose 5 child stays;person like 67 nose 8;person like 89 nose 9 stays;person like 37 nose 9;");
        for (int act : new int[] {12, 2, 2, 12, 200, 200, 113, 200}) {
            if (act == 200) y.loaf();
            else y.cross(act % 10, act / 10 % 10 - 1, act / 100);
        }
        due("two, three, two, three, one, none: the first three", y.worst(), 1);
        due("no row", Tell.told(STRANGERS).worst(), NONE);
        due("no family", new OnePassport().worst(), -2);
    }

    private static void judgedRows() {
        OnePassport x = Tell.told(A);
        promise = 36;
        x.cross(0, NONE, 0);
        Tell.lay(x, 0, 0, 200, 31);
        due("all", x.judge(0), 3);
        promise = 37;
        due("all", x.there(0), 7);
        promise = 38;
        due("all", x.takes(0), 5);
        promise = 39;
        due("all", x.dares(0), 35);
        x.grow(1, 90);
        due("by what is told now", x.dares(0), 15);
        x.grow(1, 50);
        promise = 40;
        due("all", x.lied(0), 1);
        Tell.lay(x, 0, 30, 0, 1, 2, 200);
        promise = 36;
        due("ahead of the first", x.judge(0), 3);
        promise = 37;
        due("these", x.there(0), 6);
        promise = 38;
        due("these", x.takes(0), 3);
        promise = 39;
        due("these", x.dares(0), 45);
        promise = 40;
        due("these", x.lied(0), 0);
        promise = 36;
        Tell.lay(x, 0, 2);
        due("a child can't", x.judge(0), 0);
        Tell.lay(x, 0, 20);
        due("no child", x.judge(0), 0);
        for (int bad : new int[] {3, 40, 100, 201, -1, 99, 199, 300}) {
            Tell.lay(x, 0, 200, bad);
            due("no act " + bad, x.judge(0), -2);
            due("there, no act " + bad, x.there(0), -2);
        }
        Tell.lay(x, 0, 2, 40);
        due("no act behind one that can't be", x.judge(0), -2);
        for (long bad : new long[] {1L << 32, -1L << 32, Long.MIN_VALUE, Long.MAX_VALUE}) {
            x.row(0, 3, 1);
            x.write(0, 0, bad);
            due("no act " + bad, x.judge(0), -2);
        }
        Tell.lay(x, 0);
        due("an empty row", x.judge(0), 0);
        int[] loaves = new int[60];
        java.util.Arrays.fill(loaves, 200);
        Tell.lay(x, 1, loaves);
        due("sixty", x.judge(1), 60);
        promise = 38;
        due("sixty", x.takes(1), 180);
        for (int what = 36; what <= 40; what++) {
            promise = what;
            due("has nothing", judged(x, 2), -6);
            due("slot 4", judged(x, 4), -2);
            due("slot -1", judged(x, -1), -2);
            OnePassport none = new OnePassport();
            due("no family, has nothing", judged(none, 0), -2);
            Tell.lay(none, 0, 200);
            due("no family", judged(none, 0), -2);
            Tell.lay(x, 3, 201);
            due("no act", judged(x, 3), -2);
        }
        promise = 36;
        x.row(0, 0, 1);
        x.write(0, 0, 200);
        due("200 cut to a byte", x.judge(0), -2);
        due("what is now stays", x.now(0), 1);
    }

    private static int judged(OnePassport x, int slot) {
        switch (promise) {
            case 36: return x.judge(slot);
            case 37: return x.there(slot);
            case 38: return x.takes(slot);
            case 39: return x.dares(slot);
            default: return x.lied(slot);
        }
    }

    private static void stamps(String family, int[] row, long stamped, int all, int some, int dared) {
        OnePassport x = Tell.told(family);
        x.loaf();
        Tell.lay(x, 1, row);
        String name = java.util.Arrays.toString(row);
        promise = 41;
        due("stamped " + name, x.stamped(1), stamped);
        promise = 43;
        due("in all " + name, x.sure(1, 0), all);
        due("in some " + name, x.sure(1, 1), some);
        promise = 44;
        due("dared " + name, x.dared(1), dared);
    }

    private static void stampRows() {
        stamps(A, new int[] {}, 1, 0, 0, 0);
        stamps(A, new int[] {0}, 4, 0, 7, 10);
        stamps(A, new int[] {1}, 0, 0, 0, NONE);
        stamps(A, new int[] {0, 0}, 6, 3, 7, 35);
        stamps(A, new int[] {0, 1}, 6, 0, 4, 20);
        stamps(A, new int[] {0, 0, 0}, 0, 0, 0, NONE);
        stamps(B, new int[] {10}, 3, 0, 7, 3);
        stamps(B, new int[] {10, 10}, 0, 0, 0, NONE);
        stamps(B, new int[] {10, 0}, 6, 0, 7, 34);
        stamps(B, new int[] {0, 0}, 2, 5, 5, 85);
        stamps(ALONE, new int[] {0, 1, 0, 1, 0, 1, 0, 1, 0, 1, 0, 1}, 1, 0, 0, 1200);
        OnePassport x = Tell.told(A);
        promise = 42;
        Tell.lay(x, 0, 0, 1);
        due("had(0, 0)", x.had(0, 0), 3);
        due("had(0, 1)", x.had(0, 1), 3);
        due("had(0, 2)", x.had(0, 2), 0);
        due("had(0, -1)", x.had(0, -1), -2);
        Tell.lay(x, 0, 1);
        due("no row", x.had(0, 0), 0);
        OnePassport b = Tell.told(B);
        Tell.lay(b, 0, 0, 0);
        due("1 can't, by the next", b.had(0, 0), 5);
        due("1 can't, by the one ahead", b.had(0, 1), 5);
        Tell.lay(x, 2, new int[13]);
        Tell.lay(x, 3, 0, 2);
        for (int what = 41; what <= 44; what++) {
            promise = what;
            due("more than twelve", stamped(x, 2), -2);
            due("no stamp", stamped(x, 3), -2);
            due("has nothing", stamped(x, 1), -6);
            due("slot 4", stamped(x, 4), -2);
            due("slot -1", stamped(x, -1), -2);
            OnePassport none = new OnePassport();
            due("no family, has nothing", stamped(none, 0), -2);
            Tell.lay(none, 0, 0);
            due("no family", stamped(none, 0), -2);
            for (int bad : new int[] {-1, 2, 9, 10, 11, 12, 20, 256}) {
                Tell.lay(x, 3, bad);
                due("no stamp " + bad, stamped(x, 3), -2);
            }
            Tell.lay(x, 3, 0, 2);
        }
        promise = 43;
        Tell.lay(x, 0, 0);
        due("what 2", x.sure(0, 2), -2);
        due("what -1", x.sure(0, -1), -2);
        promise = 41;
        OnePassport full = Tell.told("family loaf 1;post strict 0 keen 9 looks 0;" + "person like 0 nose 0;".repeat(6));
        Tell.lay(full, 0, 0, 0, 0, 0, 0, 0, 1, 1, 1, 1, 1, 1);
        due("six over and back", full.stamped(0), 518400);
    }

    private static long stamped(OnePassport x, int slot) {
        switch (promise) {
            case 41: return x.stamped(slot);
            case 42: return x.had(slot, 0);
            case 43: return x.sure(slot, 0);
            default: return x.dared(slot);
        }
    }

    private static void changes() {
        promise = 45;
        OnePassport b = Tell.told(B);
        due("no looks, 5", b.alone(0, 5), 4);
        due("no looks, 12", b.alone(0, 12), 11);
        due("no looks, 1", b.alone(0, 1), 0);
        due("looks, 1", b.alone(1, 1), 0);
        due("looks, 2", b.alone(1, 2), NONE);
        due("looks, 12", b.alone(1, 12), NONE);
        due("13", b.alone(0, 13), -2);
        due("-1", b.alone(0, -1), -2);
        due("post 2", b.alone(2, 5), -2);
        due("no family", new OnePassport().alone(0, 1), -2);
        OnePassport x = Tell.told(A);
        OnePassport no = Tell.told(STRANGERS);
        promise = 46;
        due("worth(0, 20)", x.worth(0, 20), 10);
        due("100 at most", x.worth(0, 100), 10);
        due("worth(1, 50)", x.worth(1, 50), 25);
        due("worth(1, 10)", x.worth(1, 10), 5);
        due("worth(1, 1), cut", x.worth(1, 1), 1);
        due("a child", x.worth(2, 10), 0);
        due("0", x.worth(0, 0), 0);
        due("like stays", x.person(0, 0), 80);
        due("surest stays", x.surest(), 35);
        due("101", x.worth(0, 101), -2);
        due("-1", x.worth(0, -1), -2);
        due("person 3", x.worth(3, 1), -2);
        due("person -1", x.worth(-1, 1), -2);
        due("it can't come", no.worth(0, 1), NONE);
        due("no such, it can't come", no.worth(2, 1), -2);
        promise = 47;
        due("the first of several", x.whom(10), 0);
        due("whom(50)", x.whom(50), 1);
        due("whom(100)", x.whom(100), 1);
        due("by one alone", x.whom(1), 0);
        due("nobody", x.whom(0), NONE);
        due("101", x.whom(101), -2);
        due("-1", x.whom(-1), -2);
        due("it can't come", no.whom(5), NONE);
        due("no family", new OnePassport().whom(0), -2);
        due("no persons", Tell.told("family loaf 1;").whom(9), NONE);
        promise = 48;
        due("noses 1 and 5", no.blur(0), 4);
        due("it can as it is", x.blur(0), 2);
        due("keen stays", no.post(0, 1), 0);
        due("post 1", no.blur(1), -2);
        due("post -1", no.blur(-1), -2);
        due("no family", new OnePassport().blur(0), -2);
        due("noses 0 and 9", Tell.told(STRANGERS.replace("nose 1", "nose 0").replace("nose 5", "nose 9")).blur(0), 9);
        no.cross(0, NONE, 0);
        due("from now on", no.blur(0), 4);
        no.stay(1, 1);
        due("at the end", no.blur(0), 0);
        OnePassport strictly = Tell.told(A.replace("looks 0", "looks 1"));
        due("by none", strictly.blur(0), NONE);
        promise = 49;
        due("two over in a row", x.looks(0), 0);
        due("looks stays", strictly.post(0, 2), 1);
        due("it would come by 0", strictly.looks(0), 0);
        due("one alone", Tell.told(ALONE).looks(0), 3);
        due("by none", Tell.told(STRANGERS).looks(0), NONE);
        due("post 1", x.looks(1), -2);
        due("post -1", x.looks(-1), -2);
        due("no family", new OnePassport().looks(0), -2);
    }

    private static void trips() {
        OnePassport x = Tell.told(A);
        promise = 50;
        // The first draws of seeds 0 to 3 are 0, 38, 8, 47; the second 68, 58, 17, 7. RISK is 10, then 25.
        int[] at = {0, NONE, 0, 2};
        int[] over = {0, 7, 0, 1};
        for (int seed = 0; seed < 4; seed++) {
            due("drawn(" + seed + ", 0)", x.drawn(seed, 0), at[seed]);
            due("drawn(" + seed + ", 1)", x.drawn(seed, 1), over[seed]);
        }
        due("the greatest seed", x.drawn(2000000000, 0), 0);
        due("greater", x.drawn(2000000001, 0), -2);
        due("-1", x.drawn(-1, 0), -2);
        due("what 2", x.drawn(0, 2), -2);
        due("what -1", x.drawn(0, -1), -2);
        due("no family", new OnePassport().drawn(0, 0), -2);
        due("it can't come", Tell.told(STRANGERS).drawn(0, 0), -2);
        x.grow(0, 24);
        due("a draw as great as RISK", x.drawn(1, 0), NONE);
        x.grow(0, 22);
        due("below RISK", x.drawn(1, 0), 0);
        x.grow(0, 80);
        x.cross(0, NONE, 0);
        due("from now on", x.drawn(2, 0), 1);
        due("from now on, over", x.drawn(2, 1), 1);
        x.anew();
        promise = 51;
        due("luck(0, 10)", x.luck(0, 10), 5);
        due("luck(0, 20)", x.luck(0, 20), 9);
        due("luck(1, 1)", x.luck(1, 1), 1);
        due("the greatest seed and on", x.luck(2000000000, 20) >= 0 ? 1 : 0, 1);
        due("0", x.luck(0, 0), -2);
        due("21", x.luck(0, 21), -2);
        due("-1", x.luck(-1, 1), -2);
        due("greater", x.luck(2000000001, 1), -2);
        due("no family", new OnePassport().luck(0, 1), -2);
        due("it can't come", Tell.told(STRANGERS).luck(0, 1), -2);
        due("at the end", Tell.told("family loaf 1;").luck(7, 20), 20);
    }

    private static void growing() {
        OnePassport x = Tell.told(A);
        promise = 52;
        due("surest() ahead", x.surest(), 35);
        due("grow", x.grow(1, 100), 50);
        due("like", x.person(1, 0), 100);
        due("surest()", x.surest(), 10);
        due("grow to 0", x.grow(1, 0), 100);
        due("101", x.grow(1, 101), -2);
        due("-1", x.grow(1, -1), -2);
        due("person 3", x.grow(3, 1), -2);
        due("person -1", x.grow(-1, 1), -2);
        due("like stays", x.person(1, 0), 0);
        promise = 53;
        due("guard", x.guard(0, 100), 50);
        due("strict", x.post(0, 0), 100);
        due("surest()", x.surest(), 120);
        due("guard to 0", x.guard(0, 0), 100);
        due("surest() at 0", x.surest(), 0);
        due("101", x.guard(0, 101), -2);
        due("-1", x.guard(0, -1), -2);
        due("post 1", x.guard(1, 1), -2);
        due("post -1", x.guard(-1, 1), -2);
        promise = 54;
        due("days() ahead", x.days(), 5);
        due("hopeful() ahead", x.hopeful() > 0 ? 1 : 0, 1);
        due("stay", x.stay(1, 1), 0);
        due("stays", x.person(1, 3), 1);
        due("days()", x.days(), 1);
        due("crossings()", x.crossings(), 1);
        due("stay again", x.stay(1, 1), 1);
        due("stay no more", x.stay(1, 0), 1);
        due("days() again", x.days(), 5);
        due("2", x.stay(1, 2), -2);
        due("-1", x.stay(1, -1), -2);
        due("person 3", x.stay(3, 1), -2);
        due("person -1", x.stay(-1, 1), -2);
        due("no family", new OnePassport().stay(0, 1), -2);
    }

    private static void counts() {
        promise = 55;
        OnePassport x = Tell.told("family loaf 7 compare;post strict 1 keen 1 looks 0;person like 1 nose 1 child stays;"
            + "person like 1 nose 1 child;person like 1 nose 1;");
        x.cross(2, 0, 0);
        x.loaf();
        Tell.feed(x, "abc");
        x.row(3, 0, 0);
        int[] all = {3, 1, 7, 2, 1, 1, 2, 5, 3, 1, NONE};
        for (int what = 0; what < all.length; what++) due("count(" + what + ")", x.count(what), all[what]);
        due("count(-1)", x.count(-1), NONE);
        OnePassport none = new OnePassport();
        for (int what = 0; what < 10; what++) due("of nothing " + what, none.count(what), 0);
        due("no compare", Tell.told(A).count(5), 0);
    }

    private static void images() {
        OnePassport x = Tell.told(A);
        promise = 57;
        due("it has nothing", x.back(0), -6);
        due("k 3", x.back(3), -2);
        due("k -1", x.back(-1), -2);
        promise = 56;
        due("k 3", x.image(3), -2);
        due("k -1", x.image(-1), -2);
        x.cross(0, 2, 0);
        x.grow(1, 60);
        due("image(0)", x.image(0), 0);
        x.loaf();
        x.stay(0, 1);
        x.row(0, 0, 4);
        due("image(2)", x.image(2), 0);
        due("nothing is otherwise", x.count(6), 2);
        Tell.family(x, B);
        x.cross(0, NONE, 0);
        Tell.feed(x, "xyz");
        promise = 57;
        due("back(0)", x.back(0), 0);
        due("persons", x.count(0), 3);
        due("like as it was then", x.person(1, 0), 60);
        due("stays as then", x.person(0, 3), 0);
        due("acts", x.count(6), 1);
        due("over", x.now(0), 5);
        due("days()", x.days(), 4);
        due("the tape stays", x.count(8), 3);
        due("slots stay", x.count(9), 1);
        x.undo();
        x.grow(1, 10);
        due("back(0) once more", x.back(0), 0);
        due("acts once more", x.act(0), 30);
        due("like once more", x.person(1, 0), 60);
        due("days once more", x.now(2), 1);
        due("the passport once more", x.now(1), 1);
        due("stamps once more", x.now(3), 1);
        due("the post remembers once more", x.post(0, 3), 0);
        due("back(2)", x.back(2), 0);
        due("acts of 2", x.count(6), 2);
        due("stays of 2", x.person(0, 3), 1);
        due("it has nothing", x.back(1), -6);
        imagesOfStamps();
        promise = 56;
        OnePassport none = new OnePassport();
        due("without a family", none.image(1), 0);
        Tell.family(none, A);
        due("back to none", none.back(1), 0);
        due("none", none.now(0), -2);
    }

    private static void imagesOfStamps() {
        OnePassport x = Tell.told("family loaf 1;post strict 0 keen 3 looks 0;post strict 0 keen 9 looks 3;"
            + "person like 0 nose 0;person like 0 nose 5;person like 0 nose 2;");
        x.cross(0, NONE, 1);
        x.loaf();
        x.cross(2, NONE, 0);
        x.image(1);
        x.anew();
        x.cross(1, NONE, 0);
        x.back(1);
        due("stamp(0)", x.stamp(0), 10);
        due("stamp(1)", x.stamp(1), 0);
        due("lies", x.lies(), 1);
        due("the first remembers", x.post(0, 3), 2);
        due("the second remembers", x.post(1, 3), 0);
        due("two alike are seen", x.why(0, NONE, 1), 5);
        x.loaf();
        due("noses", x.why(1, NONE, 0), 0);
        due("may(0)", x.may(0), 1);
        due("undo", x.undo(), 3);
        due("who is over", x.now(0), 5);
    }

    private static void slots() {
        OnePassport x = Tell.told(A);
        promise = 58;
        due("slot 4", x.row(4, 0, 1), -2);
        due("slot -1", x.row(-1, 0, 1), -2);
        due("width 4", x.row(0, 4, 1), -2);
        due("width -1", x.row(0, -1, 1), -2);
        due("61", x.row(0, 0, 61), -2);
        due("below 0", x.row(0, 0, -1), -3);
        due("below 0, no slot", x.row(4, 0, -1), -2);
        due("nothing yet", x.count(9), 0);
        due("60", x.row(0, 3, 60), 0);
        due("all 0, and sixty crossings", x.judge(0), 60);
        x.row(0, 1, 2);
        x.write(0, 0, 200);
        due("the slot stays", x.row(0, 1, -5), -3);
        due("its row", x.takes(0), 3);
        due("in its place", x.row(0, 1, 1), 0);
        due("all 0", x.takes(0), 1);
        promise = 59;
        due("slot 4", x.write(4, 0, 1), -2);
        due("slot -1", x.write(-1, 0, 1), -2);
        due("it has nothing", x.write(1, 0, 1), -6);
        due("no such number", x.write(0, 1, 1), -7);
        due("number -1", x.write(0, -1, 1), -7);
        for (int width = 0; width < 4; width++) {
            x.row(1, width, 1);
            long wide = width == 3 ? 1L << 63 : 1L << 8 * (1 << width);
            due("write", x.write(1, 0, wide + 1), 0);
            due("cut to width " + width, x.stamped(1), width == 3 ? -2 : 0);
            x.write(1, 0, 1L << 8 * (1 << width) - 1);
            due("the sign of width " + width, x.stamped(1), -2);
        }
        pasting(x);
    }

    private static void pasting(OnePassport x) {
        promise = 60;
        due("slot 4", x.paste(4, 0, 0, 0, 0), -2);
        due("to 4", x.paste(0, 0, 4, 0, 0), -2);
        due("slot -1", x.paste(-1, 0, 0, 0, 0), -2);
        due("to -1", x.paste(0, 0, -1, 0, 0), -2);
        due("one has nothing", x.paste(0, 0, 3, 0, 0), -6);
        due("the other has nothing", x.paste(3, 0, 0, 0, 0), -6);
        x.row(1, 2, 3);
        due("two widths", x.paste(0, 0, 1, 9, -1), -8);
        Tell.lay(x, 0, 0, 200, 1, 200);
        Tell.lay(x, 1, 200, 200, 200);
        due("beyond the first", x.paste(0, 2, 1, 0, 3), -7);
        due("beyond the other", x.paste(0, 0, 1, 1, 3), -7);
        due("place -1", x.paste(0, -1, 1, 0, 1), -7);
        due("to place -1", x.paste(0, 0, 1, -1, 1), -7);
        due("n -1", x.paste(0, 0, 1, 0, -1), -7);
        due("far", x.paste(0, 2147483647, 1, 0, 2147483647), -7);
        due("far n", x.paste(0, 1, 1, 1, 2147483647), -7);
        due("n 0, a place above", x.paste(0, 5, 1, 0, 0), -7);
        due("n 0, to a place above", x.paste(0, 0, 1, 4, 0), -7);
        due("n 0 at the ends", x.paste(0, 4, 1, 3, 0), 0);
        due("nothing happened", x.takes(1), 9);
        due("paste", x.paste(0, 1, 1, 0, 2), 0);
        due("200, 1, 200: 1 is not there", x.judge(1), 1);
        due("paste all", x.paste(0, 0, 1, 0, 3), 0);
        due("0, 200, 1", x.there(1), 3);
        Tell.lay(x, 2, 0, 200, 1, 200, 30);
        due("its own, onward", x.paste(2, 0, 2, 1, 3), 0);
        // 0, 0, 200, 1, 30: 1 is not on the side of the passport
        due("as they were", x.judge(2), 3);
        due("as they were, days", x.takes(2), 5);
        Tell.lay(x, 2, 200, 200, 0, 200, 31);
        due("its own, back", x.paste(2, 2, 2, 0, 3), 0);
        // 0, 200, 31, 200, 31: 1 is over by then
        due("as they were, back", x.judge(2), 4);
        due("as they were, over", x.there(2), 7);
    }
}
