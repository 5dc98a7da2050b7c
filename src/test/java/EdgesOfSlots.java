import java.util.Arrays;

/** The bounds of promises 36 to 44 and 58 to 60: rows that are judged, rows of stamps, how rows are laid, written and pasted. */
public final class EdgesOfSlots {
    private static final int NONE = OnePassport.NONE;
    private static final int LEAST = Integer.MIN_VALUE;
    private static final int GREATEST = Integer.MAX_VALUE;
    /** 0, 1 and 4 cross, 2 and 3 are children: risks are 10, 25, 30 at the first post, twice as much at the second. */
    private static final String FIVE = "family loaf 7;post strict 50 keen 9 looks 0;post strict 100 keen 9 looks 0;person like 80 nose 0;"
        + "person like 50 nose 0;person like 0 nose 0 child;person like 0 nose 0 child;person like 40 nose 0;";
    private static final int[] RISKS = {10, 25, 0, 0, 30};
    private static final String OPEN = "post strict 100 keen 9 looks 0;";
    private static final String ADULT = "person like 0 nose 0;";
    private static final String CHILD = "person like 0 nose 0 child;";
    private static final int[] NO_SLOT = {LEAST, LEAST + 1, -2, -1, 4, 5, 32, GREATEST};
    /** A row is looked at in this slot, number by number. */
    private static final int PROBE = 3;

    public static void main(String[] args) {
        whichNumbersAreActs();
        actsOfFewer();
        wideActs();
        askedLast();
        emptyRow();
        sixtyActs();
        allHereOn();
        aheadOfTheFirst();
        refusedJudges();
        whichNumbersAreStamps();
        wideStamps();
        twelveStamps();
        emptyStamps();
        placesOfStamps();
        countedRows();
        stampsThatAreSeen();
        oneStamp();
        refusedStamps();
        boundsOfRow();
        inPlaceOfAnother();
        belowZero();
        boundsOfWrite();
        cut();
        orderOfPaste();
        boundsOfPaste();
        emptyPastes();
        overlaps();
        widePastes();
        Due.end();
    }

    private static long judged(int which, OnePassport x, int slot) {
        Due.promise(which);
        switch (which) {
            case 36: return x.judge(slot);
            case 37: return x.there(slot);
            case 38: return x.takes(slot);
            case 39: return x.dares(slot);
            case 40: return x.lied(slot);
            case 41: return x.stamped(slot);
            case 42: return x.had(slot, 0);
            case 43: return x.sure(slot, 1);
            default: return x.dared(slot);
        }
    }

    private static void five(String what, OnePassport x, int slot, int judge, int there, int takes, int dares, int lied) {
        int[] due = {judge, there, takes, dares, lied};
        for (int k = 0; k < 5; k++) Due.is(what, judged(36 + k, x, slot), due[k]);
    }

    /** Each number from far below to far above the acts, as the only one of a row. */
    private static void whichNumbersAreActs() {
        OnePassport x = null;
        for (int n = -320; n <= 420; n++) {
            if ((n + 320) % 60 == 0) {
                x = Tell.told(FIVE);
                x.row(0, 1, 1);
            }
            x.write(0, 0, n);
            int post = n / 100, child = n / 10 % 10 - 1, person = n % 10;
            boolean isAct = n == 200 || n >= 0 && post < 2 && child < 5 && person < 5;
            boolean can = n == 200 || isAct && RISKS[person] > 0 && (child < 0 || RISKS[child] == 0);
            if (!isAct) {
                five("no act " + n, x, 0, -2, -2, -2, -2, -2);
            } else if (!can) {
                five("it can't be " + n, x, 0, 0, 0, 0, 0, 0);
            } else if (n == 200) {
                five("the loaf", x, 0, 1, 0, 7, 0, 0);
            } else {
                five("it can be " + n, x, 0, 1, 1 << person | (child < 0 ? 0 : 1 << child), 1, RISKS[person] * (post + 1), 0);
            }
        }
    }

    private static void actsOfFewer() {
        OnePassport one = Tell.told("family loaf 1;" + OPEN + ADULT);
        OnePassport noPost = Tell.told("family loaf 1;" + ADULT);
        OnePassport nobody = Tell.told("family loaf 1;" + OPEN);
        OnePassport six = Tell.told("family loaf 1;" + OPEN + OPEN + ADULT.repeat(5) + CHILD);
        int[] numbers = {0, 1, 10, 11, 100, 165, 164, 166, 174, 200, 201};
        int[] dueOfOne = {1, -2, 0, -2, -2, -2, -2, -2, -2, 1, -2};
        int[] dueOfSix = {1, 1, 0, 0, 1, 0, 1, -2, -2, 1, -2};
        Due.promise(36);
        for (int i = 0; i < numbers.length; i++) {
            int n = numbers[i];
            for (OnePassport x : new OnePassport[] {one, noPost, nobody, six}) Tell.lay(x, 2, n);
            Due.is(n + " of one", one.judge(2), dueOfOne[i]);
            Due.is(n + " of no post", noPost.judge(2), n == 200 ? 1 : -2);
            Due.is(n + " of nobody", nobody.judge(2), n == 200 ? 1 : -2);
            Due.is(n + " of six", six.judge(2), dueOfSix[i]);
        }
    }

    private static void wideActs() {
        OnePassport x = Tell.told(FIVE);
        long[] wide = {Long.MIN_VALUE, Long.MAX_VALUE, 1L << 32, (1L << 32) + 200, -(1L << 32), 200 - (1L << 32), 1L << 31, -1L << 31,
            GREATEST, LEAST, (1L << 63) + 200, 65536, 65736, 256, 456, -56, -1};
        x.row(0, 3, 2);
        x.write(0, 0, 200);
        for (long v : wide) {
            x.write(0, 1, v);
            for (int k = 36; k <= 40; k++) Due.is("no act " + v, judged(k, x, 0), -2);
        }
        x.write(0, 1, 200);
        five("two loafs of eight bytes", x, 0, 2, 0, 14, 0, 0);
        x.row(0, 2, 1);
        for (int v : new int[] {LEAST, GREATEST, LEAST + 200, -1, 201}) {
            x.write(0, 0, v);
            Due.is("no act " + v, judged(36, x, 0), -2);
        }
        // what a byte holds at most is no act of any; 124 is the last it holds
        x.row(0, 0, 1);
        for (int v : new int[] {127, 126, 125, -128, -127, -1, 99}) {
            x.write(0, 0, v);
            Due.is("no act " + v, judged(36, x, 0), -2);
        }
        x.write(0, 0, 124);
        Due.is("no child 1", judged(36, x, 0), 0);
        x.write(0, 0, 104);
        Due.is("104", judged(36, x, 0), 1);
    }

    /** A number that is no act is told wherever it stands, also behind one that can't be. */
    private static void askedLast() {
        OnePassport x = Tell.told(FIVE);
        int[] row = new int[60];
        for (int at : new int[] {0, 1, 30, 58, 59}) {
            for (int fill : new int[] {200, 2}) {
                Arrays.fill(row, fill);
                row[at] = 201;
                Tell.lay(x, 0, row);
                five("no act at " + at, x, 0, -2, -2, -2, -2, -2);
                if (x.count(9) != 1) Due.is("one slot", x.count(9), 1);
                x = Tell.told(FIVE);
            }
        }
    }

    private static void emptyRow() {
        OnePassport x = Whole.full();
        for (int width = 0; width < 4; width++) {
            x.row(3, width, 0);
            five("an empty row", x, 3, 0, 0, 0, 0, 0);
        }
    }

    private static void sixtyActs() {
        OnePassport x = Tell.told(FIVE);
        int[] row = new int[60];
        Arrays.fill(row, 200);
        Tell.lay(x, 0, row);
        five("sixty loafs", x, 0, 60, 0, 420, 0, 0);
        x.row(1, 0, 60);
        five("sixty crossings", x, 1, 60, 0, 60, 600, 0);
        x = Tell.told("family loaf 9;" + OPEN + ADULT);
        x.row(1, 0, 59);
        five("fifty-nine crossings", x, 1, 59, 1, 59, 5900, 0);
        x.row(1, 0, 60);
        x.write(1, 59, 10);
        five("the last can't be", x, 1, 59, 1, 59, 5900, 0);
        x.write(1, 40, 10);
        five("the forty-first can't be", x, 1, 40, 0, 40, 4000, 0);
        x.write(1, 0, 10);
        five("the first can't be", x, 1, 0, 0, 0, 0, 0);
        x = Tell.told("family loaf 9;" + OPEN + ADULT.repeat(6));
        int[] lies = new int[60];
        for (int i = 0; i < 60; i++) lies[i] = i % 2 == 1 ? 200 : i / 2 % 6;
        for (int i = 24; i < 60; i++) lies[i] = 200;
        lies[11] = 5;
        // 0 .. 4 over with loafs, 5 over and back in turn
        Tell.lay(x, 0, Arrays.copyOf(lies, 12));
        five("lies", x, 0, 12, 31, 6 + 5 * 9 + 1, 700, 5);
    }

    /** A row is judged from all here on, whatever is now; and by what is told now. */
    private static void allHereOn() {
        OnePassport x = Tell.told(FIVE);
        Tell.lay(x, 0, 30, 0, 200, 101);
        five("at first", x, 0, 3, 4, 9, 20, 0);
        x.cross(1, 3, 1);
        five("behind an act", x, 0, 3, 4, 9, 20, 0);
        for (int i = 1; i < 40; i++) x.loaf();
        five("behind forty", x, 0, 3, 4, 9, 20, 0);
        x.grow(0, 0);
        five("by another like", x, 0, 3, 4, 9, 100, 0);
        x.guard(0, 1);
        five("by another strict", x, 0, 3, 4, 9, 2, 0);
        x.stay(0, 1);
        five("by who stays", x, 0, 3, 4, 9, 2, 0);
        Due.promise(36);
        Due.is("what is now stays", x.now(0), 10);
        Due.is("its acts", x.count(6), 40);
    }

    private static void aheadOfTheFirst() {
        String keen = "family loaf 7;post strict 50 keen 2 looks 2;person like 80 nose 0;person like 60 nose 3;person like 40 nose 2;" + CHILD;
        OnePassport x = Tell.told(keen);
        judgedSo(x, "not on his side", new int[] {0, 1, 0}, 1, 1, 1, 10, 0);
        judgedSo(x, "a child", new int[] {3}, 0, 0, 0, 0, 0);
        judgedSo(x, "no child", new int[] {0, 0, 11}, 2, 0, 2, 20, 0);
        judgedSo(x, "the child is not there", new int[] {40, 0, 42}, 2, 8, 2, 20, 0);
        judgedSo(x, "noses", new int[] {0, 0, 1}, 2, 0, 2, 20, 0);
        judgedSo(x, "noses as near as keen", new int[] {0, 0, 2, 2, 1}, 5, 2, 5, 100, 0);
        judgedSo(x, "stamps", new int[] {0, 200, 2}, 2, 1, 8, 10, 0);
        judgedSo(x, "all behind it is not looked at", new int[] {0, 200, 2, 0, 0, 0}, 2, 1, 8, 10, 0);
        judgedSo(x, "but for its number", new int[] {0, 200, 2, 0, 0, 4}, -2, -2, -2, -2, -2);
    }

    private static void judgedSo(OnePassport x, String what, int[] row, int judge, int there, int takes, int dares, int lied) {
        Tell.lay(x, 1, row);
        five(what, x, 1, judge, there, takes, dares, lied);
    }

    private static void refusedJudges() {
        Whole.stays("a row that isn't judged", x -> {
            for (int k = 36; k <= 40; k++) {
                for (int slot : NO_SLOT) Due.is("slot " + slot, judged(k, x, slot), -2);
                Due.is("it has nothing", judged(k, x, 3), -6);
            }
        });
        Whole.staysWithoutFamily("a row that isn't judged", x -> {
            for (int k = 36; k <= 40; k++) {
                for (int slot : NO_SLOT) Due.is("no family, slot " + slot, judged(k, x, slot), -2);
                for (int slot = 0; slot < 4; slot++) Due.is("no family, slot " + slot, judged(k, x, slot), -2);
            }
        });
    }

    // ---- stamps ----

    private static void four(String what, OnePassport x, int slot, long stamped, int had, int some, int dared) {
        long[] due = {stamped, had, some, dared};
        for (int k = 0; k < 4; k++) Due.is(what, judged(41 + k, x, slot), due[k]);
    }

    private static void whichNumbersAreStamps() {
        for (int posts = 0; posts <= 2; posts++) {
            OnePassport x = null;
            for (int n = -130; n <= 270; n++) {
                if ((n + 130) % 80 == 0) {
                    x = Tell.told("family loaf 1;" + OPEN.repeat(posts) + ADULT + CHILD);
                    x.row(0, 1, 1);
                }
                x.write(0, 0, n);
                boolean is = n == 0 && posts > 0 || n == 1 && posts > 0 || n == 10 && posts > 1 || n == 11 && posts > 1;
                String what = "stamp " + n + " of " + posts;
                if (!is) four(what, x, 0, -2, -2, -2, -2);
                else if (n % 10 == 0) four(what, x, 0, 2, 1, 3, 100);
                else four(what, x, 0, 0, 0, 0, NONE);
            }
        }
    }

    private static void wideStamps() {
        OnePassport x = Tell.told(FIVE);
        x.row(0, 3, 2);
        for (long v : new long[] {Long.MIN_VALUE, Long.MAX_VALUE, 1L << 32, (1L << 32) + 10, (1L << 63) + 11, -(1L << 32), 256, 65536, -1, 2}) {
            x.write(0, 1, v);
            four("no stamp " + v, x, 0, -2, -2, -2, -2);
            for (int i : new int[] {0, 1, 2, GREATEST}) Due.is("no stamp " + v + ", had " + i, x.had(0, i), -2);
            Due.is("no stamp " + v + ", in all", x.sure(0, 0), -2);
        }
        x.write(0, 1, 11);
        // three alone, and six with a child, who brings it back or not
        four("of eight bytes", x, 0, 15, 19, 12, 30);
    }

    /** Twelve stamps are told, thirteen are too many, whatever they are. */
    private static void twelveStamps() {
        OnePassport x = Tell.told("family loaf 1;" + OPEN + ADULT);
        for (int n : new int[] {12, 13, 14, 59, 60}) {
            for (int fill = 0; fill < 3; fill++) {
                int[] row = new int[n];
                for (int i = 0; i < n; i++) row[i] = fill == 0 ? i % 2 : fill == 1 ? 0 : 77;
                OnePassport y = Tell.told("family loaf 1;" + OPEN + ADULT);
                Tell.lay(y, 0, row);
                if (n > 12 || fill == 2) four(n + " stamps", y, 0, -2, -2, -2, -2);
                else if (fill == 0) four("twelve in turn", y, 0, 1, 1, 0, 1200);
                else four("twelve over", y, 0, 0, 0, 0, NONE);
            }
        }
        int[] row = {0, 1, 0, 1, 0, 1, 0, 1, 0, 1, 0, 2};
        Tell.lay(x, 0, row);
        four("the last is no stamp", x, 0, -2, -2, -2, -2);
        Tell.lay(x, 0, Arrays.copyOf(row, 11));
        four("eleven", x, 0, 1, 1, 1, 1100);
    }

    private static void emptyStamps() {
        for (String family : new String[] {"family loaf 1;", "family loaf 1;" + ADULT, "family loaf 1;" + OPEN, FIVE}) {
            OnePassport x = Tell.told(family);
            x.row(2, 3, 0);
            four("an empty row", x, 2, 1, 0, 0, 0);
            Due.promise(43);
            Due.is("nobody in all", x.sure(2, 0), 0);
            Due.promise(42);
            for (int i : new int[] {0, 1, 11, 12, 60, GREATEST}) Due.is("no stamp " + i, x.had(2, i), 0);
        }
        OnePassport nobody = Tell.told("family loaf 1;" + OPEN);
        nobody.row(0, 0, 1);
        four("nobody to make it", nobody, 0, 0, 0, 0, NONE);
        OnePassport children = Tell.told("family loaf 1;" + OPEN + CHILD.repeat(6));
        children.row(0, 0, 1);
        four("children alone", children, 0, 0, 0, 0, NONE);
    }

    /** Each place of a row, the first that there isn't, those far off. */
    private static void placesOfStamps() {
        OnePassport x = Tell.told("family loaf 1;" + OPEN + ADULT.repeat(2) + "person like 0 nose 0;" + CHILD);
        for (int n = 0; n <= 12; n++) {
            int[] row = new int[n];
            for (int i = 0; i < n; i++) row[i] = i % 2;
            Tell.lay(x, 0, row);
            Due.promise(42);
            for (int i = 0; i <= 13; i++) Due.is("had(0, " + i + ") of " + n, x.had(0, i), i < n ? 7 : 0);
            Due.promise(43);
            Due.is("in some of " + n, x.sure(0, 1), n == 0 ? 0 : n % 2 == 0 ? 8 : 15);
            Due.is("in all of " + n, x.sure(0, 0), 0);
        }
        Due.promise(42);
        x = Tell.told("family loaf 1;" + OPEN + ADULT.repeat(2) + "person like 0 nose 0;" + CHILD);
        Tell.lay(x, 0, 0, 0, 0, 1);
        for (int i = 0; i < 4; i++) Due.is("had(0, " + i + ")", x.had(0, i), 7);
        for (int i : new int[] {4, 5, 12, 60, GREATEST - 1, GREATEST}) Due.is("had(0, " + i + ")", x.had(0, i), 0);
        for (int i : new int[] {-1, -2, LEAST + 1, LEAST}) {
            Due.is("had(0, " + i + ")", x.had(0, i), -2);
            Due.is("had(1, " + i + ") of nothing", x.had(1, i), -2);
        }
        Due.promise(43);
        Due.is("two of three in all, none always", x.sure(0, 0), 0);
        Tell.lay(x, 0, 0, 0, 0);
        Due.is("three in all", x.sure(0, 0), 7);
        Due.is("and the child in some", x.sure(0, 1), 15);
        for (int what : new int[] {LEAST, -2, -1, 2, 3, GREATEST}) {
            Due.is("sure(0, " + what + ")", x.sure(0, what), -2);
            Due.is("sure(1, " + what + ") of nothing", x.sure(1, what), -2);
        }
        Tell.lay(x, 0, 0, 0, 0, 0);
        four("four of three", x, 0, 0, 0, 0, NONE);
        Due.is("none, in all", x.sure(0, 0), 0);
    }

    /** Rows counted in another way: how many children are over tells how many rows go on. */
    private static void countedRows() {
        for (int children = 0; children <= 5; children++) {
            OnePassport x = Tell.told("family loaf 9;" + OPEN + "person like 70 nose 0;" + CHILD.repeat(children));
            long[] rows = new long[7];
            rows[0] = 1;
            for (int n = 0; n <= 12; n++) {
                int[] row = new int[n];
                for (int i = 0; i < n; i++) row[i] = i % 2;
                Tell.lay(x, 0, row);
                Due.promise(41);
                Due.is(n + " stamps, " + children + " children", x.stamped(0), Arrays.stream(rows).sum());
                Due.promise(44);
                Due.is(n + " stamps, risk", x.dared(0), 30 * n);
                long[] next = new long[7];
                for (int k = 0; k <= children; k++) {
                    next[k] += rows[k];
                    if (n % 2 == 0) next[k + 1] += rows[k] * (children - k);
                    else if (k > 0) next[k - 1] += rows[k] * k;
                }
                rows = next;
            }
        }
        OnePassport six = Tell.told("family loaf 9;" + OPEN + OPEN + ADULT.repeat(6));
        long rows = 1;
        for (int n = 0; n <= 7; n++) {
            Tell.lay(six, 0, new int[n]);
            Due.promise(41);
            Due.is(n + " over", six.stamped(0), rows);
            rows *= 6 - n;
        }
        Tell.lay(six, 0, 0, 10, 0, 10, 0, 10, 11, 1, 11, 1, 11, 1);
        four("six over and back", six, 0, 518400, 63, 0, 1200);
    }

    /** Stamps at a post that looks at 0 .. 3 of them, behind others made where nobody looks: as many rows as there, or none. */
    private static void stampsThatAreSeen() {
        String[] rows = {"", "o", "oo", "ob", "ooo", "ooob", "oobo", "ooobb", "oboo", "oobob", "oobbo", "oooobbb", "ooobobo"};
        int[][] forbid = {{0, 14, 14, 0, 14, 8, 14, 12, 14, 0, 14, 12, 14}, {0, 0, 12, 14, 12, 14, 0, 14, 12, 14, 8, 14, 0}};
        for (int looks = 0; looks < 4; looks++) {
            OnePassport x = Tell.told("family loaf 1;post strict 30 keen 9 looks 0;post strict 10 keen 9 looks " + looks + ";"
                + ADULT.repeat(5));
            for (int i = 0; i < rows.length; i++) {
                for (int side = 0; side < 2; side++) {
                    int n = rows[i].length();
                    int[] row = new int[n + 1];
                    for (int k = 0; k < n; k++) row[k] = rows[i].charAt(k) == 'o' ? 0 : 1;
                    row[n] = side;
                    Tell.lay(x, 0, row);
                    long free = judged(41, x, 0);
                    row[n] = 10 + side;
                    Tell.lay(x, 1, row);
                    boolean alike = (forbid[side][i] >> looks & 1) == 1;
                    String what = "looks " + looks + " behind " + rows[i] + ", " + side;
                    Due.is(what, x.stamped(1), alike ? 0 : free);
                    Due.promise(42);
                    Due.is(what, x.had(1, n), alike || free == 0 ? 0 : 31);
                    Due.promise(44);
                    Due.is(what, x.dared(1), alike || free == 0 ? NONE : 30 * n + 10);
                    Due.promise(43);
                    Due.is(what, x.sure(1, 1) == 0 ? 0 : 1, alike || free == 0 || x.sure(0, 1) == 0 ? 0 : 1);
                }
            }
        }
    }

    /** One stamp of several who dare more or less, at each post; and each question as the first of all. */
    private static void oneStamp() {
        for (int post = 0; post < 2; post++) {
            for (int k = 41; k <= 44; k++) {
                OnePassport x = Tell.told(FIVE);
                Tell.lay(x, 0, 10 * post);
                long[] due = {9, 19, 31, 10 + 10 * post};
                Due.is("one over at " + post, judged(k, x, 0), due[k - 41]);
                x.grow(0, 0);
                if (k == 44) Due.is("then another dares least", judged(k, x, 0), 25 + 25 * post);
                x.row(0, 0, 0);
                if (k == 44) Due.is("then none", judged(k, x, 0), 0);
            }
        }
    }

    private static void refusedStamps() {
        Whole.stays("a row of stamps that isn't told", x -> {
            for (int k = 41; k <= 44; k++) {
                for (int slot : NO_SLOT) Due.is("slot " + slot, judged(k, x, slot), -2);
                Due.is("it has nothing", judged(k, x, 3), -6);
            }
            Due.promise(42);
            for (int i : new int[] {LEAST, -1}) Due.is("had(1, " + i + ")", x.had(1, i), -2);
            Due.promise(43);
            for (int what : new int[] {LEAST, -1, 2, GREATEST}) Due.is("sure(1, " + what + ")", x.sure(1, what), -2);
        });
        Whole.staysWithoutFamily("a row of stamps that isn't told", x -> {
            for (int k = 41; k <= 44; k++) {
                for (int slot : NO_SLOT) Due.is("no family, slot " + slot, judged(k, x, slot), -2);
                for (int slot = 0; slot < 4; slot++) Due.is("no family, slot " + slot, judged(k, x, slot), -2);
            }
        });
    }

    // ---- how rows are laid ----

    /** What a row has: for each number what of it alone is judged; the probe has a row then. */
    private static String told(OnePassport x, int slot, int width, int n) {
        StringBuilder s = new StringBuilder();
        for (int i = 0; i < n; i++) {
            x.row(PROBE, width, 1);
            if (x.paste(slot, i, PROBE, 0, 1) != 0) s.append('!');
            s.append(x.judge(PROBE)).append('/').append(x.there(PROBE)).append('/').append(x.takes(PROBE)).append('/').append(x.dares(PROBE))
                .append(' ');
        }
        return s.append(x.paste(slot, n, slot, n, 0)).append(x.paste(slot, n + 1, slot, 0, 0)).toString();
    }

    /** What a row of these acts has; -1 for what is no act. */
    private static String due(int... acts) {
        StringBuilder s = new StringBuilder();
        for (int act : acts) {
            if (act == NONE) s.append("-2/-2/-2/-2 ");
            else if (act == 200) s.append("1/0/7/0 ");
            else {
                int person = act % 10, child = act / 10 % 10 - 1, post = act / 100;
                s.append("1/").append(1 << person | (child < 0 ? 0 : 1 << child)).append("/1/").append(RISKS[person] * (post + 1)).append(' ');
            }
        }
        return s.append("0-7").toString();
    }

    private static void boundsOfRow() {
        Due.promise(58);
        for (int slot = 0; slot < 4; slot++) {
            OnePassport x = Tell.told(FIVE);
            for (int width = 0; width < 4; width++) {
                for (int n : new int[] {0, 1, 59, 60}) {
                    Due.is("row(" + slot + ", " + width + ", " + n + ")", x.row(slot, width, n), 0);
                    Due.is("one slot", x.count(9), 1);
                    Due.is("all 0, so many", x.judge(slot), n);
                    Due.is("the last", x.write(slot, n - 1, 0), n == 0 ? -7 : 0);
                    Due.is("none behind it", x.write(slot, n, 0), -7);
                }
            }
            for (int other = 0; other < 4; other++) Due.is("the others have nothing", x.write(other, 0, 0), other == slot ? 0 : -6);
        }
        Whole.stays("a row there can't be", x -> {
            for (int slot : NO_SLOT) {
                for (int n : new int[] {LEAST, -1, 0, 60, 61}) Due.is("row(" + slot + ", 0, " + n + ")", x.row(slot, 0, n), -2);
            }
            for (int width : NO_SLOT) {
                for (int n : new int[] {LEAST, -1, 0, 60, 61}) Due.is("row(0, " + width + ", " + n + ")", x.row(0, width, n), -2);
            }
            for (int slot = 0; slot < 4; slot++) {
                for (int n : new int[] {61, 62, 64, 100, GREATEST}) Due.is("row(" + slot + ", 1, " + n + ")", x.row(slot, 1, n), -2);
                for (int n : new int[] {-1, -2, -60, LEAST + 1, LEAST}) Due.is("row(" + slot + ", 1, " + n + ")", x.row(slot, 1, n), -3);
            }
        });
        Whole.staysWithoutFamily("a row there can't be", x -> {
            Due.is("row(4, 0, 0)", x.row(4, 0, 0), -2);
            Due.is("row(0, 4, 0)", x.row(0, 4, 0), -2);
            Due.is("row(0, 0, 61)", x.row(0, 0, 61), -2);
            Due.is("row(0, 0, -1)", x.row(0, 0, -1), -3);
        });
    }

    private static void inPlaceOfAnother() {
        OnePassport x = Tell.told(FIVE);
        Tell.lay(x, 0, 200, 104, 200);
        Tell.lay(x, 1, 41, 4);
        Due.promise(58);
        x.row(0, 1, 3);
        Due.same("all 0", told(x, 0, 1, 3), due(0, 0, 0));
        Due.same("another one stays", told(x, 1, 1, 2), due(41, 4));
        x.row(0, 3, 5);
        Due.same("longer and wider", told(x, 0, 3, 5), due(0, 0, 0, 0, 0));
        x.write(0, 4, 200);
        x.row(0, 0, 2);
        x.row(0, 0, 5);
        Due.same("none of what was behind", told(x, 0, 0, 5), due(0, 0, 0, 0, 0));
        Due.is("slots that have a row", x.count(9), 3);
        x.row(0, 0, 0);
        Due.is("an empty one is one", x.count(9), 3);
        Due.is("it has no number", x.write(0, 0, 0), -7);
        Tell.family(x, "family loaf 1;");
        Due.same("a family in place of another leaves it", x.count(9) + " " + x.judge(0), "3 0");
    }

    /** -3, and the slot stays: a row of its own, an empty one, none. */
    private static void belowZero() {
        Due.promise(58);
        OnePassport x = Tell.told(FIVE);
        Tell.lay(x, 0, 200, 104);
        for (int n : new int[] {-1, LEAST}) {
            for (int width = 0; width < 4; width++) Due.is("row(0, " + width + ", " + n + ")", x.row(0, width, n), -3);
            Due.is("row(1, 0, " + n + ")", x.row(1, 0, n), -3);
        }
        Due.is("still nothing", x.judge(1), -6);
        Due.same("its row stays", told(x, 0, 1, 2), due(200, 104));
        x.row(1, 2, 0);
        Due.is("row(1, 0, -1)", x.row(1, 0, -1), -3);
        Due.is("its width too", x.paste(0, 0, 1, 0, 0), -8);
    }

    private static void boundsOfWrite() {
        Due.promise(59);
        for (int n : new int[] {0, 1, 2, 60}) {
            OnePassport x = Tell.told(FIVE);
            x.row(2, 1, n);
            for (int i : new int[] {LEAST, -2, -1, n, n + 1, 61, GREATEST}) {
                Due.is("write(2, " + i + ") of " + n, x.write(2, i, 200), -7);
            }
            Due.is("all 0 still", x.judge(2), n);
            Due.is("no loaf in it", x.takes(2), n);
            if (n > 0) {
                Due.is("the first", x.write(2, 0, 200), 0);
                Due.is("the last", x.write(2, n - 1, 200), 0);
                Due.is("there they are", x.takes(2), n == 2 ? 14 : 7);
            }
        }
        Whole.stays("a number there isn't", x -> {
            for (int slot : NO_SLOT) {
                for (int i : new int[] {LEAST, -1, 0, 60}) Due.is("write(" + slot + ", " + i + ")", x.write(slot, i, 7), -2);
            }
            for (int i : new int[] {LEAST, -1, 0, 60, GREATEST}) Due.is("write(3, " + i + ") of nothing", x.write(3, i, 7), -6);
            for (int i : new int[] {LEAST, -1, 4, 5, 60, GREATEST}) Due.is("write(0, " + i + ")", x.write(0, i, 7), -7);
            for (int i : new int[] {LEAST, -1, 0, 1, GREATEST}) Due.is("write(2, " + i + ") of none", x.write(2, i, 7), -7);
        });
        OnePassport x = Tell.told(FIVE);
        Tell.lay(x, 0, 200, 104, 41);
        Tell.lay(x, 1, 200, 104, 41);
        Due.is("write", x.write(0, 1, 30), 0);
        Due.same("that number alone", told(x, 0, 1, 3), due(200, 30, 41));
        Due.same("that slot alone", told(x, 1, 1, 3), due(200, 104, 41));
    }

    private static void cut() {
        Due.promise(59);
        cut(0, 0, 0, 256, 0, -256, 0, 104, 104, 104 + 256, 104, 104 - 256, 104, 104L + (1L << 40), 104, Long.MIN_VALUE + 30, 30,
            Long.MAX_VALUE - 255 + 30, 30, 128, NONE, 200, NONE, 456, NONE, 255, NONE, -1, NONE, Long.MIN_VALUE, 0, Long.MAX_VALUE, NONE);
        cut(1, 200, 200, 65736, 200, 200 - 65536, 200, 456, NONE, 256, NONE, 65536, 0, 1L << 32, 0, 200 + (1L << 32), 200,
            Long.MIN_VALUE + 200, 200, Long.MIN_VALUE, 0, Long.MAX_VALUE, NONE, 32767, NONE, 32768, NONE, 32968, NONE, -1, NONE);
        cut(2, 200, 200, 65736, NONE, 1L << 32, 0, (1L << 32) + 200, 200, 200 - (1L << 32), 200, (1L << 31) + 200, NONE,
            Long.MIN_VALUE + 104, 104, Long.MIN_VALUE, 0, Long.MAX_VALUE, NONE, LEAST, NONE, GREATEST, NONE, -1, NONE);
        cut(3, 200, 200, 0, 0, 104, 104, 1L << 32, NONE, (1L << 32) + 200, NONE, Long.MIN_VALUE + 200, NONE, Long.MIN_VALUE, NONE,
            Long.MAX_VALUE, NONE, -1, NONE, 456, NONE, 65736, NONE);
    }

    /** Pairs of what is written and the act that it is then, of a width; -1 where it is no act. */
    private static void cut(int width, long... pairs) {
        OnePassport x = Tell.told(FIVE);
        x.row(0, width, 3);
        for (int i = 0; i < pairs.length; i += 2) {
            Due.is("write " + pairs[i], x.write(0, 1, pairs[i]), 0);
            Due.same("width " + width + ", " + pairs[i], told(x, 0, width, 3), due(0, (int) pairs[i + 1], 0));
        }
    }

    /** Where several refusals hold: no slot, then nothing, then widths, then places. */
    private static void orderOfPaste() {
        Due.promise(60);
        Whole.stays("a paste there can't be", x -> {
            for (int slot : NO_SLOT) {
                Due.is("paste(" + slot + ", 0, 0, 0, 0)", x.paste(slot, 0, 0, 0, 0), -2);
                Due.is("paste(0, 0, " + slot + ", 0, 0)", x.paste(0, 0, slot, 0, 0), -2);
                Due.is("paste(" + slot + ") to nothing", x.paste(slot, -1, 3, -1, -1), -2);
                Due.is("paste to " + slot + " of nothing", x.paste(3, -1, slot, -1, -1), -2);
                Due.is("neither", x.paste(slot, 0, slot, 0, 0), -2);
            }
            Due.is("of nothing", x.paste(3, 0, 0, 0, 0), -6);
            Due.is("to nothing", x.paste(0, 0, 3, 0, 0), -6);
            Due.is("nothing to nothing", x.paste(3, 0, 3, 0, 0), -6);
            Due.is("of nothing, wild", x.paste(3, -1, 1, 99, LEAST), -6);
            Due.is("to nothing, wild", x.paste(2, GREATEST, 3, -9, GREATEST), -6);
            Due.is("two widths", x.paste(0, 0, 1, 0, 1), -8);
            Due.is("two widths, n 0", x.paste(0, 0, 1, 0, 0), -8);
            Due.is("two widths, wild", x.paste(0, -1, 1, 99, LEAST), -8);
            Due.is("two widths, an empty one", x.paste(2, 0, 0, 0, 0), -8);
        });
        Whole.staysWithoutFamily("a paste there can't be", x -> {
            Due.is("paste(4, 0, 0, 0, 0)", x.paste(4, 0, 0, 0, 0), -2);
            Due.is("paste(0, 0, 2, 0, 0)", x.paste(0, 0, 2, 0, 0), -6);
            Due.is("paste(0, 0, 1, 0, 0)", x.paste(0, 0, 1, 0, 0), -8);
            Due.is("paste(0, 0, 0, 0, 3)", x.paste(0, 0, 0, 0, 3), -7);
            Due.is("paste(0, 0, 0, 0, 2)", x.paste(0, 0, 0, 0, 2), 0);
        });
    }

    /** Rows of four and of three: each place and each n from below 0 to beyond both. */
    private static void boundsOfPaste() {
        Due.promise(60);
        int[] wild = {LEAST, LEAST + 1, -2, -1, 0, 1, 2, 3, 4, 5, GREATEST - 3, GREATEST - 1, GREATEST};
        int[] first = {104, 30, 200, 141};
        int[] other = {1, 4, 0};
        for (int n : wild) {
            OnePassport x = Tell.told(FIVE);
            Tell.lay(x, 0, first);
            for (int i : wild) {
                Tell.lay(x, 1, other);
                for (int k : wild) {
                    boolean fits = i >= 0 && k >= 0 && n >= 0 && (long) i + n <= 4 && (long) k + n <= 3;
                    if (!fits) Due.is("paste(0, " + i + ", 1, " + k + ", " + n + ")", x.paste(0, i, 1, k, n), -7);
                }
                // 1 over, 4 is not there: nothing happened
                Due.is("nothing happens", x.dares(1), 25);
            }
            Due.same("the first stays", told(x, 0, 1, 4), due(first));
        }
        for (int n = 0; n <= 3; n++) {
            for (int i = 0; i + n <= 4; i++) {
                for (int k = 0; k + n <= 3; k++) {
                    OnePassport x = Tell.told(FIVE);
                    Tell.lay(x, 0, first);
                    Tell.lay(x, 1, other);
                    Due.is("paste(0, " + i + ", 1, " + k + ", " + n + ")", x.paste(0, i, 1, k, n), 0);
                    int[] then = other.clone();
                    System.arraycopy(first, i, then, k, n);
                    Due.same("put there", told(x, 1, 1, 3), due(then));
                    Due.same("the first stays", told(x, 0, 1, 4), due(first));
                }
            }
        }
        sixty();
    }

    private static void sixty() {
        OnePassport x = Tell.told(FIVE);
        x.row(0, 1, 60);
        x.row(1, 1, 60);
        x.write(0, 59, 200);
        x.write(0, 0, 100);
        for (int n : new int[] {61, 62, GREATEST}) Due.is(n + " of sixty", x.paste(0, 0, 1, 0, n), -7);
        Due.is("one behind sixty", x.paste(0, 60, 1, 0, 1), -7);
        Due.is("to one behind sixty", x.paste(0, 0, 1, 60, 1), -7);
        Due.is("none behind sixty", x.paste(0, 60, 1, 60, 0), 0);
        Due.is("nothing happened", x.takes(1), 60);
        Due.is("the last", x.paste(0, 59, 1, 0, 1), 0);
        Due.is("there it is", x.takes(1), 7);
        x.row(1, 1, 60);
        Due.is("sixty", x.paste(0, 0, 1, 0, 60), 0);
        Due.is("there they are", x.takes(1), 66);
        Due.is("the first too", x.dares(1), 600);
        x.row(1, 1, 59);
        Due.is("sixty to fifty-nine", x.paste(0, 0, 1, 0, 60), -7);
        Due.is("fifty-nine", x.paste(0, 1, 1, 0, 59), 0);
        // crossings in turn, the loaf behind them
        Due.is("there they are", x.takes(1), 65);
        Due.is("all of them", x.judge(1), 59);
    }

    /** n 0: a place as high as how many there are is one, one above is not. */
    private static void emptyPastes() {
        Due.promise(60);
        OnePassport x = Tell.told(FIVE);
        Tell.lay(x, 0, 200, 30);
        x.row(1, 1, 0);
        int[][] asked = {{0, 0, 0}, {2, 0, 0}, {3, 0, -7}, {0, 1, -7}, {2, 1, -7}, {3, 1, -7}, {-1, 0, -7}, {0, -1, -7}, {GREATEST, 0, -7},
            {0, GREATEST, -7}, {LEAST, 0, -7}, {0, LEAST, -7}};
        for (int[] a : asked) {
            Due.is("none from " + a[0] + " to " + a[1] + " of nothing", x.paste(0, a[0], 1, a[1], 0), a[2]);
            Due.is("none from " + a[1] + " of nothing to " + a[0], x.paste(1, a[1], 0, a[0], 0), a[2]);
        }
        Due.is("one of none", x.paste(1, 0, 0, 0, 1), -7);
        Due.is("one to none", x.paste(0, 0, 1, 0, 1), -7);
        Due.is("its own, empty", x.paste(1, 0, 1, 0, 0), 0);
        Due.is("its own, empty, above", x.paste(1, 1, 1, 0, 0), -7);
        Due.is("its own, at its end", x.paste(0, 2, 0, 2, 0), 0);
        Due.is("its own, above its end", x.paste(0, 0, 0, 3, 0), -7);
        Due.same("nothing happened", told(x, 0, 1, 2), due(200, 30));
    }

    private static void overlaps() {
        Due.promise(60);
        int[] row = {104, 30, 200, 141, 1};
        for (int n = 0; n <= 5; n++) {
            for (int i = 0; i + n <= 5; i++) {
                for (int k = 0; k + n <= 5; k++) {
                    OnePassport x = Tell.told(FIVE);
                    Tell.lay(x, 0, row);
                    Due.is("its own, " + n + " from " + i + " to " + k, x.paste(0, i, 0, k, n), 0);
                    int[] then = row.clone();
                    for (int j = 0; j < n; j++) then[k + j] = row[i + j];
                    Due.same("as they were", told(x, 0, 1, 5), due(then));
                }
            }
        }
    }

    /** Of each width, to each slot; wide numbers stay whole. */
    private static void widePastes() {
        Due.promise(60);
        for (int width = 0; width < 4; width++) {
            for (int other = 0; other < 4; other++) {
                OnePassport x = Tell.told(FIVE);
                x.row(0, width, 2);
                x.row(2, other, 2);
                x.write(0, 1, 104);
                Due.is("widths " + width + " and " + other, x.paste(0, 0, 2, 0, 2), width == other ? 0 : -8);
                Due.same("put there or not", told(x, 2, other, 2), due(0, width == other ? 104 : 0));
            }
        }
        OnePassport x = Tell.told(FIVE);
        x.row(0, 3, 3);
        x.row(1, 3, 3);
        x.write(0, 0, (1L << 32) + 200);
        x.write(0, 1, 200);
        x.write(0, 2, Long.MIN_VALUE);
        x.paste(0, 0, 1, 0, 3);
        Due.same("eight bytes", told(x, 1, 3, 3), due(NONE, 200, NONE));
    }
}
