/** The bounds of promises 1 to 9: the tape, the family as it is told, its faults, who and what there is. */
public final class EdgesOfTelling {
    private static final int NONE = OnePassport.NONE;
    private static final int LEAST = Integer.MIN_VALUE;
    private static final int GREATEST = Integer.MAX_VALUE;
    private static final String LOAF = "family loaf 1;";
    private static final String PERSON = "person like 1 nose 1;";
    private static final String POST = "post strict 1 keen 1 looks 1;";

    public static void main(String[] args) {
        aNewObject();
        theFaceOfNone();
        bytesOfFeed();
        roomOfFeed();
        end();
        boundsOfNumbers();
        boundsOfLines();
        marks();
        emptyFamily();
        nothingBehindAFamily();
        faultsLeaveAll();
        inPlaceOfAnother();
        faultAsked();
        singleBytes();
        bytesBehindANumber();
        cutTexts();
        whichFaultComesFirst();
        tokens();
        persons();
        posts();
        risks();
        after();
        Due.end();
    }

    private static void aNewObject() {
        Due.promise(1);
        Due.is("NONE", NONE, -1);
        OnePassport x = new OnePassport();
        for (int what = 0; what < 10; what++) Due.is("count(" + what + ")", x.count(what), 0);
        OnePassport other = Whole.full();
        Due.is("another object has its own", x.count(0), 0);
        Due.is("the other has six", other.count(0), 6);
        Due.is("its own slots", x.count(9), 0);
        Due.is("its own images", x.back(0), -6);
        Due.is("its own tape", x.count(8), 0);
        Due.is("its own fault", x.fault(0), 0);
        Due.is("place of no fault", x.fault(1), NONE);
        Due.is("family() at once", x.family(), 0);
        Due.is("end(0)", x.end(0), 0);
        Due.is("end(1)", x.end(1), NONE);
    }

    /** All that asks for a family, a person or a post answers -2 on a new object. */
    private static void theFaceOfNone() {
        Due.promise(1);
        OnePassport x = new OnePassport();
        long[] all = {x.person(0, 0), x.post(0, 0), x.risk(0, 0), x.after(0, 0), x.after(NONE, 0), x.now(0), x.stamp(0), x.lies(),
            x.why(0, NONE, 0), x.cross(0, NONE, 0), x.loaf(), x.undo(), x.anew(), x.act(0), x.acts(), x.may(0), x.days(), x.plan(0),
            x.surest(), x.surely(0), x.slowly(), x.crossings(), x.moves(), x.chance(0), x.chance(1), x.states(), x.hopeful(), x.till(0),
            x.over(0), x.never(), x.lost(0), x.worst(), x.judge(0), x.there(0), x.takes(0), x.dares(0), x.lied(0), x.stamped(0),
            x.had(0, 0), x.sure(0, 0), x.sure(0, 1), x.dared(0), x.alone(0, 0), x.worth(0, 0), x.whom(0), x.blur(0), x.looks(0),
            x.drawn(0, 0), x.drawn(0, 1), x.luck(0, 1), x.grow(0, 0), x.guard(0, 0), x.stay(0, 0)};
        for (int i = 0; i < all.length; i++) Due.is("answer " + i + " of a new object", all[i], -2);
        Due.is("write", x.write(0, 0, 0), -6);
        Due.is("paste", x.paste(0, 0, 0, 0, 0), -6);
        for (int k = 0; k < 3; k++) Due.is("back(" + k + ")", x.back(k), -6);
        for (int slot = 0; slot < 4; slot++) Due.is("row(" + slot + ")", x.row(slot, 0, 0), 0);
    }

    /** Each of the twenty bytes stands at its place, a byte of any value. */
    private static void bytesOfFeed() {
        Due.promise(2);
        for (int b : new int[] {0, 1, 127, 128, 255}) {
            OnePassport x = new OnePassport();
            for (int k = 0; k < 20; k++) {
                int[] w = {0x20202020, 0x20202020, 0x20202020, 0x20202020, 0x20202020};
                int shift = 8 * (3 - k % 4);
                w[k / 4] = w[k / 4] & ~(255 << shift) | b << shift;
                Due.is("feed", x.feed(w[0], w[1], w[2], w[3], w[4]), 20);
                Due.is("a byte " + b + " at " + k, x.family(), -4);
                Due.is("its fault", x.fault(0), 1);
                Due.is("its place", x.fault(1), k);
            }
        }
        OnePassport x = new OnePassport();
        // "fami" "ly l" "oaf " "9;po" "st s", "tric" "t 10" "0 ke" "en 8" " loo", "ks 3" ";   "
        Due.is("twenty", x.feed(0x66616D69, 0x6C79206C, 0x6F616620, 0x393B706F, 0x73742073), 20);
        Due.is("forty", x.feed(0x74726963, 0x74203130, 0x30206B65, 0x656E2038, 0x206C6F6F), 40);
        Due.is("sixty", x.feed(0x6B732033, 0x3B202020, 0x20202020, 0x20202020, 0x20202020), 60);
        Due.is("all in their order", x.family(), 2);
        Due.is("loaf", x.count(2), 9);
        Due.is("strict", x.post(0, 0), 100);
        Due.is("keen", x.post(0, 1), 8);
        Due.is("looks", x.post(0, 2), 3);
        x.feed(LEAST, 0, 0, 0, 0);
        x.family();
        Due.is("the smallest int", x.fault(1), 0);
        x.feed(0x0A0A0A20, GREATEST, -1, -1, -1);
        x.family();
        Due.is("the greatest int", x.fault(1), 4);
    }

    private static void roomOfFeed() {
        Due.promise(2);
        OnePassport x = new OnePassport();
        for (int n = 20; n <= 600; n += 20) Due.is("feed to " + n, x.feed(n, -n, 0, LEAST, GREATEST), n);
        for (int n = 600; n >= 560; n--) {
            Due.is("end(" + n + ")", x.end(n), n);
            Due.is("feed behind " + n, x.feed(0, 0, 0, 0, 0), n > 580 ? NONE : n + 20);
            Due.is("how many behind " + n, x.count(8), n > 580 ? n : n + 20);
        }
        x.end(0);
        // The last of 600 bytes is read as the others are.
        String full = LOAF + " ".repeat(600 - LOAF.length() - POST.length()) + POST;
        Due.is("600 bytes", Tell.family(x, full), 2);
        Tell.feed(x, full);
        Due.is("no room", x.feed(0x3B3B3B3B, -1, -1, -1, -1), NONE);
        Due.is("none came", x.family(), 2);
        Due.is("looks, at the end of 600", x.post(0, 2), 1);
        Due.is("599 bytes", Tell.family(x, full.substring(0, 599)), -4);
        Due.is("the end of 599", x.fault(1), 599);
        Due.is("600 bytes without the sign", Tell.family(x, " " + full.substring(0, 599)), -4);
        Due.is("the end of 600", x.fault(1), 600);
        Whole.stays("a feed without room", y -> {
            while (y.count(8) <= 580) y.feed(0x20202020, 0x20202020, 0x20202020, 0x20202020, 0x20202020);
            Due.is("no room", y.feed(1, 2, 3, 4, 5), NONE);
            y.end(35);
        });
    }

    private static void end() {
        Due.promise(3);
        OnePassport x = new OnePassport();
        for (int n : new int[] {LEAST, -1, 1, 20, 600, GREATEST}) Due.is("end(" + n + ") of none", x.end(n), NONE);
        Due.is("end(0) of none", x.end(0), 0);
        Tell.feed(x, LOAF + "x");
        Due.is("so many", x.count(8), 15);
        for (int n : new int[] {LEAST, LEAST + 1, -15, -1, 16, 20, 599, 600, 601, GREATEST}) {
            Due.is("end(" + n + ") of 15", x.end(n), NONE);
            Due.is("nothing happens", x.count(8), 15);
        }
        Due.is("end(15) of 15", x.end(15), 15);
        Due.is("end(14) of 15", x.end(14), 14);
        Due.is("end(15) of 14", x.end(15), NONE);
        Due.is("its first bytes alone", x.family(), 1);
        Tell.feed(x, "family loaf 8;xxxxxx");
        x.end(12);
        // "7;  " behind "family loaf "
        Due.is("feed comes behind these", x.feed(0x373B2020, 0x20202020, 0x20202020, 0x20202020, 0x20202020), 32);
        x.family();
        Due.is("none of what was behind", x.count(2), 7);
        Tell.feed(x, "family loaf 8;");
        Due.is("end(0)", x.end(0), 0);
        Due.is("empty then", x.family(), 0);
        Whole.stays("an end that is refused", y -> {
            Due.is("end(-1)", y.end(-1), NONE);
            Due.is("end(36)", y.end(36), NONE);
            Due.is("end(" + LEAST + ")", y.end(LEAST), NONE);
            Due.is("end(" + GREATEST + ")", y.end(GREATEST), NONE);
            Due.is("end(35)", y.end(35), 35);
        });
    }

    /** Each number of a line: its least and its greatest, and those beyond them, those too that wrap around. */
    private static void boundsOfNumbers() {
        bound("family loaf ", 1, 9, ";", x -> x.count(2));
        bound(LOAF + "person like ", 0, 100, " nose 1;", x -> x.person(0, 0));
        bound(LOAF + "person like 1 nose ", 0, 9, ";", x -> x.person(0, 1));
        bound(LOAF + "post strict ", 0, 100, " keen 1 looks 1;", x -> x.post(0, 0));
        bound(LOAF + "post strict 1 keen ", 0, 9, " looks 1;", x -> x.post(0, 1));
        bound(LOAF + "post strict 1 keen 1 looks ", 0, 3, ";", x -> x.post(0, 2));
    }

    private interface Asked {
        int of(OnePassport x);
    }

    private static void bound(String ahead, int least, int most, String behind, Asked asked) {
        Due.promise(4);
        OnePassport x = new OnePassport();
        int lines = ahead.startsWith(LOAF) ? 2 : 1;
        for (int n = least; n <= most; n++) {
            if (n > least + 1 && n < most - 1) continue;
            for (String told : new String[] {"" + n, "0" + n, "0".repeat(100) + n}) {
                Due.is(ahead + told, Tell.family(x, ahead + told + behind), lines);
                Due.is(ahead + told + ", read", asked.of(x), n);
            }
        }
        String[] beyond = {"" + (most + 1), "00" + (most + 1), "999", "1000", "2147483647", "2147483648", "4294967296", "4294967297",
            "9223372036854775808", "18446744073709551617", "9".repeat(400), "1" + "0".repeat(300), "256", "257", "65537"};
        for (String told : beyond) {
            Due.is(ahead + told, Tell.family(x, ahead + told + behind), -4);
            Due.is(ahead + told + ", fault", x.fault(0), 2);
            Due.is(ahead + told + ", place", x.fault(1), ahead.length());
        }
        if (least > 0) {
            for (String told : new String[] {"0", "000"}) {
                Due.is(ahead + told, Tell.family(x, ahead + told + behind), -4);
                Due.is(ahead + told + ", fault", x.fault(0), 2);
            }
        }
        for (String told : new String[] {"-1", "+1", "1.0", "x", ";", "", "1x1"}) {
            Due.is(ahead + told, Tell.family(x, ahead + told + behind), -4);
            Due.is(ahead + told + ", fault", x.fault(0), 1);
        }
    }

    private static void boundsOfLines() {
        Due.promise(4);
        OnePassport x = new OnePassport();
        for (int persons = 0; persons <= 6; persons++) {
            for (int posts = 0; posts <= 2; posts++) {
                Due.is(persons + " and " + posts, Tell.family(x, LOAF + PERSON.repeat(persons) + POST.repeat(posts)), 1 + persons + posts);
                Due.is("persons", x.count(0), persons);
                Due.is("posts", x.count(1), posts);
                Due.is("lines", x.count(7), 1 + persons + posts);
            }
        }
        String mixed = LOAF + "post strict 11 keen 1 looks 0;person like 21 nose 1;person like 22 nose 2;post strict 12 keen 2 looks 3;"
            + "person like 23 nose 3;";
        Due.is("mixed", Tell.family(x, mixed), 6);
        for (int p = 0; p < 3; p++) Due.is("persons as they stand", x.person(p, 0), 21 + p);
        for (int q = 0; q < 2; q++) Due.is("posts as they stand", x.post(q, 0), 11 + q);
        tooMany(LOAF + PERSON.repeat(6), PERSON);
        tooMany(LOAF + PERSON.repeat(6) + POST.repeat(2), PERSON);
        tooMany(LOAF + POST.repeat(2), POST);
        tooMany(LOAF + POST.repeat(2) + PERSON.repeat(6), POST);
        tooMany(LOAF + POST + PERSON + POST + PERSON, POST);
    }

    private static void tooMany(String ahead, String line) {
        OnePassport x = new OnePassport();
        for (String more : new String[] {line, line.substring(0, line.indexOf(' ')), line.substring(0, line.indexOf(' ')) + ";"}) {
            Due.promise(4);
            Due.is("one too many: " + more, Tell.family(x, ahead + more), -4);
            Due.promise(5);
            Due.is("one too many: " + more, x.fault(0), 3);
            Due.is("at its word: " + more, x.fault(1), ahead.length());
        }
    }

    /** Marks: none, one, both in any order, none of them twice. */
    private static void marks() {
        Due.promise(4);
        String[] told = {"", " child", " stays", " child stays", " stays child"};
        int[] child = {0, 1, 0, 1, 1};
        int[] stays = {0, 0, 1, 1, 1};
        OnePassport x = new OnePassport();
        for (int i = 0; i < told.length; i++) {
            Due.is("marks" + told[i], Tell.family(x, LOAF + "person like 1 nose 1" + told[i] + ";" + PERSON), 3);
            Due.is("child of" + told[i], x.person(0, 2), child[i]);
            Due.is("stays of" + told[i], x.person(0, 3), stays[i]);
            Due.is("child of the next", x.person(1, 2), 0);
            Due.is("stays of the next", x.person(1, 3), 0);
        }
        Due.is("compare", Tell.family(x, "family loaf 1 compare;"), 1);
        Due.is("compare", x.count(5), 1);
        Due.is("no compare", Tell.family(x, LOAF), 1);
        Due.is("no compare", x.count(5), 0);
        String ahead = LOAF + "person like 1 nose 1 ";
        for (String twice : new String[] {"child child", "stays stays", "child stays child", "child stays stays", "stays child child",
            "stays child stays"}) {
            Due.is(twice, Tell.family(x, ahead + twice + ";"), -4);
            Due.is(twice + ", fault", x.fault(0), 1);
            Due.is(twice + ", place", x.fault(1), ahead.length() + twice.lastIndexOf(' ') + 1);
        }
        Due.is("compare twice", Tell.family(x, "family loaf 1 compare compare;"), -4);
        Due.is("compare twice, place", x.fault(1), 22);
        Due.is("a mark of another", Tell.family(x, "family loaf 1 child;"), -4);
        Due.is("a mark of another, place", x.fault(1), 14);
        Due.is("a mark of a post", Tell.family(x, LOAF + "post strict 1 keen 1 looks 1 stays;"), -4);
        Due.is("a mark of a post, place", x.fault(1), 43);
    }

    /** A tape of nothing is no family: 0, also in place of another. */
    private static void emptyFamily() {
        Due.promise(4);
        for (String nothing : new String[] {"", " ", "\n", " \n \n\n ", " ".repeat(600)}) {
            OnePassport x = Whole.full();
            x.end(0);
            Due.is("family of nothing", Tell.family(x, nothing), 0);
            Due.is("no lines", x.count(7), 0);
            Due.is("no persons", x.count(0), 0);
            Due.is("no posts", x.count(1), 0);
            Due.is("no loaf", x.count(2), 0);
            Due.is("no acts", x.count(6), 0);
            Due.is("nobody", x.person(0, 0), -2);
            Due.is("no post", x.post(0, 0), -2);
            Due.is("no days", x.days(), -2);
            Due.is("no state", x.now(0), -2);
            Due.is("no fault", x.fault(0), 0);
            Due.is("no place", x.fault(1), NONE);
            Due.is("slots stay", x.count(9), 3);
            Due.is("no row is judged", x.judge(0), -2);
            Due.is("images stay", x.back(1), 0);
            Due.is("six persons again", x.count(0), 6);
        }
    }

    private static void nothingBehindAFamily() {
        Due.promise(4);
        OnePassport x = Tell.told("family loaf 8 compare;" + PERSON.replace(";", " child stays;") + POST);
        Due.is("nothing", x.family(), 0);
        for (int what = 0; what < 10; what++) Due.is("count(" + what + ") then", x.count(what), 0);
    }

    /** -4: the tape is empty, all else stays. */
    private static void faultsLeaveAll() {
        Due.promise(4);
        String stayed = Whole.butTape(Whole.full());
        for (String text : new String[] {"x", "family loaf 0;", "family loaf 3", LOAF + PERSON.repeat(7), LOAF + PERSON + POST + ";"}) {
            OnePassport x = Whole.full();
            x.end(0);
            Due.is(text, Tell.family(x, text), -4);
            Due.is("the tape is empty", x.count(8), 0);
            Due.same("all else behind " + text, Whole.butTape(x), stayed);
        }
        OnePassport none = new OnePassport();
        Due.is("a fault of the first", Tell.family(none, LOAF + PERSON + "x"), -4);
        Due.is("there is none", none.count(7), 0);
        Due.is("nobody", none.person(0, 0), -2);
    }

    private static void inPlaceOfAnother() {
        Due.promise(4);
        OnePassport x = Whole.full();
        x.grow(3, 55);
        x.guard(0, 7);
        x.stay(3, 1);
        x.end(0);
        Due.is("the same told again", Tell.family(x, Whole.KIN), 9);
        StringBuilder fresh = new StringBuilder();
        StringBuilder again = new StringBuilder();
        Whole.family(Tell.told(Whole.KIN), fresh);
        Whole.family(x, again);
        Due.same("as one new", again.toString(), fresh.toString());
        searchedAhead();
        Due.is("all here", x.now(0), 0);
        Due.is("the passport too", x.now(1), 0);
        Due.is("no days", x.now(2), 0);
        Due.is("no stamps", x.now(3), 0);
        Due.is("slots stay", x.judge(0), 3);
        Due.is("images stay", x.back(0), 0);
        Due.is("as it was", x.person(0, 0), 40);
    }

    /** What was searched of one family tells nothing of the next. */
    private static void searchedAhead() {
        String[] families = {Whole.KIN, LOAF + PERSON + POST, LOAF, Whole.KIN.replace("keen 2", "keen 9").replace("stays", ""),
            Whole.KIN.replace("family loaf 7", "family loaf 2 compare"), LOAF + POST + POST, LOAF + PERSON.repeat(3), Whole.KIN};
        for (int i = 1; i < families.length; i++) {
            OnePassport x = Tell.told(families[i - 1]);
            Whole.searches(x);
            Tell.family(x, families[i]);
            Due.same("searched behind another", Whole.searches(x), Whole.searches(Tell.told(families[i])));
        }
    }

    private static void faultAsked() {
        Due.promise(5);
        OnePassport x = new OnePassport();
        int[] others = {LEAST, -2, -1, 2, 3, GREATEST};
        for (int what : others) Due.is("fault(" + what + ") ahead of any", x.fault(what), NONE);
        Due.is("fault(0) ahead of any", x.fault(0), 0);
        Due.is("fault(1) ahead of any", x.fault(1), NONE);
        Tell.family(x, "family loaf 0;");
        for (int what : others) Due.is("fault(" + what + ") of a fault", x.fault(what), NONE);
        Due.is("fault(0)", x.fault(0), 2);
        Due.is("fault(1)", x.fault(1), 12);
        Tell.feed(x, LOAF);
        x.end(14);
        x.back(0);
        Due.is("of the latest family() still", x.fault(0), 2);
        Due.is("its place still", x.fault(1), 12);
        x.family();
        for (int what : others) Due.is("fault(" + what + ") without", x.fault(what), NONE);
        Due.is("fault(0) without", x.fault(0), 0);
        Due.is("fault(1) without", x.fault(1), NONE);
        Tell.family(x, ";");
        Due.is("at the first byte", x.fault(1), 0);
        x.family();
        Due.is("of nothing", x.fault(0), 0);
        Due.is("of nothing, place", x.fault(1), NONE);
    }

    /** Each byte there is, alone: blanks tell nothing, all others are a fault. */
    private static void singleBytes() {
        Due.promise(5);
        OnePassport x = new OnePassport();
        OnePassport y = new OnePassport();
        for (int b = 0; b < 256; b++) {
            OnePassport z = b < 100 ? x : y;
            if (b == 180) y = new OnePassport();
            Tell.feed(z, new byte[] {(byte) b});
            boolean blank = b == 10 || b == 32;
            Due.is("family of a byte " + b, z.family(), blank ? 0 : -4);
            if (blank || b % 3 == 0) Due.is("place of a byte " + b, z.fault(1), blank ? NONE : 0);
        }
    }

    /** Each byte behind "family loaf 3": digits make it longer, the sign ends it, the end comes behind blanks, all others are a fault. */
    private static void bytesBehindANumber() {
        Due.promise(5);
        OnePassport x = new OnePassport();
        for (int b = 0; b < 256; b++) {
            if (b % 60 == 0) x = new OnePassport();
            byte[] text = "family loaf 3?".getBytes(java.nio.charset.StandardCharsets.ISO_8859_1);
            text[13] = (byte) b;
            Tell.feed(x, text);
            x.family();
            boolean digit = b >= '0' && b <= '9';
            boolean blank = b == 10 || b == 32;
            Due.is("fault of a byte " + b, x.fault(0), b == ';' ? 0 : digit ? 2 : 1);
            Due.is("place of a byte " + b, x.fault(1), b == ';' ? NONE : digit ? 12 : blank ? 14 : 13);
        }
    }

    /** A text cut anywhere: the end is the fault, or the word that it cuts; none behind the sign. */
    private static void cutTexts() {
        String text = "family loaf 4 compare;\nperson like 100 nose 9 child stays; post strict 20 keen 7\nlooks 2 ;";
        for (int n = 0; n <= text.length(); n++) {
            OnePassport x = new OnePassport();
            String cut = text.substring(0, n);
            String told = cut.replace('\n', ' ').stripTrailing();
            int word = n;
            while (word > 0 && Character.isLetter(text.charAt(word - 1))) word--;
            boolean inWord = word < n && n < text.length() && Character.isLetter(text.charAt(n));
            boolean fine = told.isEmpty() || told.endsWith(";");
            int lines = (int) told.chars().filter(c -> c == ';').count();
            Due.promise(4);
            Due.is("cut at " + n, Tell.family(x, cut), fine ? lines : -4);
            Due.promise(5);
            Due.is("fault cut at " + n, x.fault(0), fine ? 0 : 1);
            Due.is("place cut at " + n, x.fault(1), fine ? NONE : inWord ? word : n);
        }
    }

    private static void fault(String text, int which, int place) {
        OnePassport x = new OnePassport();
        Due.promise(4);
        Due.is(text, Tell.family(x, text), -4);
        Due.promise(5);
        Due.is("fault of " + text, x.fault(0), which);
        Due.is("place of " + text, x.fault(1), place);
        Due.promise(4);
        Due.is("none then", x.count(7), 0);
    }

    private static void whichFaultComesFirst() {
        // of one place the least: a number out of its bounds that can't stand there, a seventh person inside a line
        fault("family 999;", 1, 7);
        fault("999", 1, 0);
        fault(LOAF + "999;", 1, 14);
        fault("family loaf 1 999;", 1, 14);
        fault(LOAF + PERSON.repeat(6) + "post person", 1, 14 + 6 * 21 + 5);
        fault(LOAF + PERSON.repeat(6) + "post strict person", 1, 14 + 6 * 21 + 12);
        fault(LOAF + POST.repeat(2) + "person post", 1, 14 + 2 * 29 + 7);
        // the first by its place
        fault("family loaf 10; x", 2, 12);
        fault("family loaf 10 x", 2, 12);
        fault("family loaf 1 x 10;", 1, 14);
        fault("family loaf 10", 2, 12);
        fault(LOAF + "person like 101 nose 10;", 2, 26);
        fault(LOAF + "person like 1 nose 10" + PERSON.repeat(7), 2, 33);
        fault(LOAF + PERSON.repeat(6) + "person like 101 nose 1;", 3, 140);
        fault(LOAF + PERSON.repeat(6) + "person x", 3, 140);
        fault(LOAF + PERSON.repeat(5) + "person x;" + PERSON, 1, 14 + 5 * 21 + 7);
        fault("family loaf 0;" + PERSON.repeat(7), 2, 12);
        // family is the first line and no other, and no word comes ahead of it
        fault("person family", 1, 0);
        fault("post strict 1 keen 1 looks 1;" + LOAF, 1, 0);
        fault("loaf 1;", 1, 0);
        fault("1 family loaf 1;", 1, 0);
        fault(";" + LOAF, 1, 0);
        fault("\n\n " + PERSON, 1, 3);
        fault("family family loaf 1;", 1, 7);
        fault("family loaf family;", 1, 12);
        fault("family loaf 1 family;", 1, 14);
        fault(LOAF + LOAF, 1, 14);
        fault(LOAF + PERSON + LOAF, 1, 35);
        fault(LOAF + "person family", 1, 21);
        fault(LOAF + PERSON.repeat(6) + POST.repeat(2) + "family", 1, 14 + 6 * 21 + 2 * 29);
        // the end's place, blanks and all
        fault("family  ", 1, 8);
        fault("family loaf 1\n\n", 1, 15);
        fault(LOAF + " post  ", 1, 21);
        fault(LOAF + "person like 1 nose 1 child  ", 1, 42);
    }

    private static void tokens() {
        // the longest: words and numbers that touch are one
        fault("familyloaf 1;", 1, 0);
        fault("family loafx 1;", 1, 7);
        fault(LOAF + "person like 1 nose 1 childstays;", 1, 35);
        fault(LOAF + "persons like 1 nose 1;", 1, 14);
        fault(LOAF + "per son like 1 nose 1;", 1, 14);
        fault("family loaf 1 0;", 1, 14);
        fault("fam\nily loaf 1;", 1, 0);
        for (char letter = 'a'; letter <= 'z'; letter++) {
            fault("family" + letter + " loaf 1;", 1, 0);
            fault(letter + "family loaf 1;", 1, 0);
            fault("family loaf 1 " + letter + "compare;", 1, 14);
        }
        // none of the tokens
        for (String sign : new String[] {"\t", "\r", "\0", "A", "Z", "`", "{", "/", ":", ",", "-", "\u0080", "\u00a0", "\u00ff", "\u007f"}) {
            fault(LOAF + sign, 1, 14);
            fault("family" + sign + "loaf 1;", 1, 6);
            fault("family loaf 1" + sign + ";", 1, 13);
            fault(sign + LOAF, 1, 0);
        }
        // parts that are missing, or in another order
        fault("family compare;", 1, 7);
        fault("family;", 1, 6);
        fault("family compare loaf 1;", 1, 7);
        fault(LOAF + "person;", 1, 20);
        fault(LOAF + "person nose 1;", 1, 21);
        fault(LOAF + "person like nose 1;", 1, 26);
        fault(LOAF + "person like 1;", 1, 27);
        fault(LOAF + "person like 1 child;", 1, 28);
        fault(LOAF + "person like 1 nose;", 1, 32);
        fault(LOAF + "person child like 1 nose 1;", 1, 21);
        fault(LOAF + "post;", 1, 18);
        fault(LOAF + "post keen 1 looks 1;", 1, 19);
        fault(LOAF + "post strict 1 looks 1;", 1, 28);
        fault(LOAF + "post strict 1 keen 1;", 1, 34);
        fault(LOAF + "post looks 1 keen 1 strict 1;", 1, 19);
        fault(LOAF + "post like 1 nose 1;", 1, 19);
        Due.promise(4);
        OnePassport x = new OnePassport();
        Due.is("without blanks", Tell.family(x, "family loaf1compare;person like1nose2child stays;post strict3keen4looks2;"), 3);
        int[] told = {x.person(0, 0), x.person(0, 1), x.person(0, 2), x.person(0, 3), x.post(0, 0), x.post(0, 1), x.post(0, 2)};
        int[] want = {1, 2, 1, 1, 3, 4, 2};
        for (int i = 0; i < 7; i++) Due.is("without blanks, " + i, told[i], want[i]);
        Due.is("blanks anywhere", Tell.family(x, "\n family \n\nloaf\n1\n;\nperson\nlike  1 nose\n2\n;  "), 2);
    }

    private static void persons() {
        Due.promise(6);
        OnePassport x = Whole.full();
        int[][] six = {{80, 2, 0, 0}, {50, 4, 0, 0}, {90, 9, 1, 0}, {0, 9, 0, 0}, {100, 0, 0, 1}, {10, 5, 1, 1}};
        for (int p = 0; p < 6; p++) {
            for (int what = 0; what < 4; what++) Due.is("person(" + p + ", " + what + ")", x.person(p, what), six[p][what]);
        }
        // 1 took the child 2 over, the passport came back in the loaf, 0 went over
        int[] over = {1, 1, 1, 0, 0, 0};
        for (int p = 0; p < 6; p++) Due.is("person(" + p + ", 4)", x.person(p, 4), over[p]);
        Whole.stays("a person there isn't", y -> {
            for (int p : new int[] {LEAST, -2, -1, 6, 7, 32, 64, GREATEST}) {
                for (int what = 0; what < 5; what++) Due.is("person(" + p + ", " + what + ")", y.person(p, what), -2);
            }
            for (int what : new int[] {LEAST, -2, -1, 5, 6, GREATEST}) {
                for (int p = 0; p < 6; p++) Due.is("person(" + p + ", " + what + ")", y.person(p, what), -2);
            }
        });
        for (int persons = 0; persons < 6; persons++) {
            OnePassport few = Tell.told(LOAF + PERSON.repeat(persons));
            for (int p = 0; p < 6; p++) Due.is("person " + p + " of " + persons, few.person(p, 0), p < persons ? 1 : -2);
        }
        x.end(0);
        x.family();
        for (int what = 0; what < 5; what++) Due.is("of no family", x.person(0, what), -2);
    }

    private static void posts() {
        Due.promise(7);
        OnePassport x = Whole.full();
        int[][] two = {{50, 2, 0, 0}, {100, 9, 1, 1}};
        for (int q = 0; q < 2; q++) {
            for (int what = 0; what < 4; what++) Due.is("post(" + q + ", " + what + ")", x.post(q, what), two[q][what]);
        }
        Whole.stays("a post there isn't", y -> {
            for (int q : new int[] {LEAST, -2, -1, 2, 3, GREATEST}) {
                for (int what = 0; what < 4; what++) Due.is("post(" + q + ", " + what + ")", y.post(q, what), -2);
            }
            for (int what : new int[] {LEAST, -2, -1, 4, 5, GREATEST}) {
                for (int q = 0; q < 2; q++) Due.is("post(" + q + ", " + what + ")", y.post(q, what), -2);
            }
        });
        OnePassport one = Tell.told(LOAF + POST);
        Due.is("post 0 of one", one.post(0, 0), 1);
        Due.is("post 1 of one", one.post(1, 0), -2);
        Due.is("post 0 of none", Tell.told(LOAF + PERSON).post(0, 0), -2);
        Due.is("nobody yet", one.post(0, 3), NONE);
        remembers();
    }

    private static void remembers() {
        for (int compare = 0; compare < 2; compare++) {
            OnePassport x = Tell.told("family loaf 1" + (compare == 1 ? " compare;" : ";") + "person like 1 nose 1;".repeat(6)
                + "post strict 1 keen 0 looks 0;".repeat(2));
            x.cross(5, NONE, 1);
            Due.is("the last person, compare " + compare, x.post(1, 3), 5);
            Due.is("at the other post, compare " + compare, x.post(0, 3), compare == 1 ? 5 : NONE);
            x.loaf();
            Due.is("behind a loaf", x.post(1, 3), 5);
            x.cross(0, NONE, 0);
            Due.is("the first person, compare " + compare, x.post(0, 3), 0);
            Due.is("then at the other post, compare " + compare, x.post(1, 3), compare == 1 ? 0 : 5);
            x.cross(5, NONE, 1);
            Due.is("back too, compare " + compare, x.post(1, 3), 5);
            x.anew();
            Due.is("anew, 0", x.post(0, 3), NONE);
            Due.is("anew, 1", x.post(1, 3), NONE);
        }
    }

    private static void risks() {
        Due.promise(8);
        int[][] cuts = {{0, 100, 100}, {0, 1, 1}, {0, 0, 0}, {100, 100, 0}, {100, 0, 0}, {99, 100, 1}, {99, 99, 0}, {1, 1, 0}, {50, 99, 49},
            {1, 100, 99}, {1, 99, 98}, {34, 50, 33}, {33, 50, 33}, {67, 3, 0}, {66, 3, 1}};
        for (int[] cut : cuts) {
            OnePassport x = Tell.told(LOAF + "person like " + cut[0] + " nose 0;post strict " + cut[1] + " keen 0 looks 0;");
            Due.is("risk of " + cut[0] + " at " + cut[1], x.risk(0, 0), cut[2]);
        }
        OnePassport x = Whole.full();
        int[][] all = {{10, 20}, {25, 50}, {5, 10}, {50, 100}, {0, 0}, {45, 90}};
        for (int p = 0; p < 6; p++) {
            for (int q = 0; q < 2; q++) Due.is("risk(" + p + ", " + q + ")", x.risk(p, q), all[p][q]);
        }
        Whole.stays("a risk there isn't", y -> {
            for (int wrong : new int[] {LEAST, -2, -1, 6, 7, GREATEST}) Due.is("risk(" + wrong + ", 0)", y.risk(wrong, 0), -2);
            for (int wrong : new int[] {LEAST, -2, -1, 2, 3, GREATEST}) Due.is("risk(0, " + wrong + ")", y.risk(0, wrong), -2);
            Due.is("risk(6, 2)", y.risk(6, 2), -2);
        });
        Due.is("no posts", Tell.told(LOAF + PERSON).risk(0, 0), -2);
        Due.is("no persons", Tell.told(LOAF + POST).risk(0, 0), -2);
    }

    private static void after() {
        Due.promise(9);
        // noses 0, 3, 6, 9, a child with nose 4, 9
        String kin = "person like 1 nose 0;person like 1 nose 3;person like 1 nose 6;person like 1 nose 9 stays;"
            + "person like 1 nose 4 child;person like 1 nose 9;";
        int[][] due = {{1, 2, 4, 40, 0, 40}, {1, 2, 4, 40, 2, 40}, {1, 2, 4, 40, 6, 40}, {3, 7, 46, 44, 6, 44}, {3, 7, 46, 44, 7, 44},
            {3, 7, 46, 44, 47, 44}, {7, 47, 47, 46, 47, 46}, {7, 47, 47, 46, 47, 46}, {7, 47, 47, 46, 47, 46}, {47, 47, 47, 47, 47, 47}};
        for (int keen = 0; keen < 10; keen++) {
            OnePassport x = Tell.told(LOAF + kin + "post strict 1 keen 0 looks 3;post strict 1 keen " + keen + " looks 3;");
            for (int p = 0; p < 6; p++) Due.is("keen " + keen + " behind " + p, x.after(p, 1), due[keen][p]);
            Due.is("keen " + keen + " behind nobody", x.after(NONE, 1), 47);
            Due.is("the other post behind 2", x.after(2, 0), 4);
        }
        Whole.stays("an after there isn't", y -> {
            for (int wrong : new int[] {LEAST, LEAST + 1, -3, -2, 6, 7, GREATEST}) Due.is("after(" + wrong + ", 0)", y.after(wrong, 0), -2);
            for (int wrong : new int[] {LEAST, -2, -1, 2, 3, GREATEST}) {
                Due.is("after(0, " + wrong + ")", y.after(0, wrong), -2);
                Due.is("after(NONE, " + wrong + ")", y.after(NONE, wrong), -2);
            }
        });
        Due.is("no persons", Tell.told(LOAF + POST).after(NONE, 0), 0);
        Due.is("no persons, 0", Tell.told(LOAF + POST).after(0, 0), -2);
        Due.is("no posts", Tell.told(LOAF + PERSON).after(NONE, 0), -2);
        Due.is("children alone", Tell.told(LOAF + POST + "person like 1 nose 1 child;".repeat(6)).after(NONE, 0), 0);
        Due.is("six", Tell.told(LOAF + POST + PERSON.repeat(6)).after(5, 0), 63);
        Due.is("where they are is one", Whole.full().after(NONE, 0), 27);
    }
}
