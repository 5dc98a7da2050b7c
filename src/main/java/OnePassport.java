import java.util.Arrays;

/** One passport for a family: see DOC.md for its promises, README.md for how to use it. */
public final class OnePassport {
    public static final int NONE = -1;

    private static final int NO_SUCH = -2;
    private static final int BELOW_ZERO = -3;
    private static final int FAULTY = -4;
    private static final int CANNOT = -5;
    private static final int NOTHING = -6;
    private static final int BEYOND = -7;
    private static final int OTHER_WIDTH = -8;

    private static final int MOST_PERSONS = 6;
    private static final int MOST_POSTS = 2;
    private static final int MOST_ACTS = 40;
    private static final int MOST_STAMPS = 12;
    private static final int MOST_NUMBERS = 60;
    private static final int MOST_SEED = 2000000000;
    // 100 to the ninth is the greatest such power that a long holds.
    private static final int MOST_IN_FRACTION = 9;
    private static final int IMAGES = 3;
    private static final int LOAF = 200;

    private final Tape tape;
    private final Family draft;
    private final Family family;
    private final Walk walk;
    private final Walk judged;
    private final Search search;
    private final Ledger ledger;
    private final Slots slots;
    private final Family[] imageFamilies;
    private final Walk[] imageWalks;
    private final boolean[] imageKept;

    public OnePassport() {
        tape = new Tape();
        draft = new Family();
        family = new Family();
        walk = new Walk();
        judged = new Walk();
        search = new Search(family, walk);
        ledger = new Ledger();
        slots = new Slots();
        imageFamilies = new Family[IMAGES];
        imageWalks = new Walk[IMAGES];
        imageKept = new boolean[IMAGES];
        for (int k = 0; k < IMAGES; k++) {
            imageFamilies[k] = new Family();
            imageWalks[k] = new Walk();
        }
    }

    // ---- the tape and the family ----

    public int feed(int a, int b, int c, int d, int e) {
        if (tape.length + 20 > Tape.MOST) {
            return NONE;
        }
        tape.append(a);
        tape.append(b);
        tape.append(c);
        tape.append(d);
        tape.append(e);
        return tape.length;
    }

    public int end(int n) {
        if (n < 0 || n > tape.length) {
            return NONE;
        }
        tape.length = n;
        return n;
    }

    public int family() {
        tape.readInto(draft);
        tape.length = 0;
        if (tape.fault != 0) {
            return FAULTY;
        }
        family.copyFrom(draft);
        walk.restart();
        search.beginFamily();
        return family.lines;
    }

    public int fault(int what) {
        switch (what) {
            case 0: return tape.fault;
            case 1: return tape.place;
            default: return NONE;
        }
    }

    public int person(int person, int what) {
        if (!family.hasPerson(person)) {
            return NO_SUCH;
        }
        switch (what) {
            case 0: return family.like[person];
            case 1: return family.nose[person];
            case 2: return family.child[person];
            case 3: return family.stays[person];
            case 4: return (walk.over >> person) & 1;
            default: return NO_SUCH;
        }
    }

    public int post(int post, int what) {
        if (!family.hasPost(post)) {
            return NO_SUCH;
        }
        switch (what) {
            case 0: return family.strict[post];
            case 1: return family.keen[post];
            case 2: return family.looks[post];
            case 3: return walk.last[post];
            default: return NO_SUCH;
        }
    }

    public int risk(int person, int post) {
        if (!family.hasPerson(person) || !family.hasPost(post)) {
            return NO_SUCH;
        }
        return family.riskOf(person, post);
    }

    public int after(int person, int post) {
        if (!family.hasPost(post) || !family.hasPersonOrNone(person)) {
            return NO_SUCH;
        }
        return family.adultsBehind(person, post);
    }

    // ---- what is now, and the acts ----

    public int now(int what) {
        if (!family.isTold()) {
            return NO_SUCH;
        }
        switch (what) {
            case 0: return walk.over;
            case 1: return walk.side;
            case 2: return walk.days;
            case 3: return walk.stampCount;
            case 4: return walk.riskTogether(family);
            default: return NO_SUCH;
        }
    }

    public int stamp(int i) {
        if (!family.isTold()) {
            return NO_SUCH;
        }
        return i >= 0 && i < walk.stampCount ? walk.stamps[i] : NONE;
    }

    public int lies() {
        return family.isTold() ? walk.countLies() : NO_SUCH;
    }

    public int why(int person, int child, int post) {
        if (!family.hasCrossing(person, child, post)) {
            return NO_SUCH;
        }
        return walk.hindrance(family, person, child, post);
    }

    public int cross(int person, int child, int post) {
        if (!family.hasCrossing(person, child, post)) {
            return NO_SUCH;
        }
        if (walk.count >= MOST_ACTS || walk.hindrance(family, person, child, post) != 0) {
            return CANNOT;
        }
        walk.pass(family, person, child, post);
        return walk.days;
    }

    public int loaf() {
        if (!family.isTold()) {
            return NO_SUCH;
        }
        if (walk.count >= MOST_ACTS) {
            return CANNOT;
        }
        walk.send(family);
        return walk.days;
    }

    public int undo() {
        if (!family.isTold()) {
            return NO_SUCH;
        }
        if (walk.count == 0) {
            return CANNOT;
        }
        walk.replay(family, walk.count - 1);
        return walk.count;
    }

    public int anew() {
        if (!family.isTold()) {
            return NO_SUCH;
        }
        int had = walk.count;
        walk.restart();
        return had;
    }

    public int act(int i) {
        if (!family.isTold()) {
            return NO_SUCH;
        }
        return i >= 0 && i < walk.count ? walk.acts[i] : NONE;
    }

    public int acts() {
        return family.isTold() ? search.countOptions() : NO_SUCH;
    }

    public int may(int i) {
        return family.isTold() ? search.option(i) : NO_SUCH;
    }

    // ---- the best rows to the end ----

    public int days() {
        if (!family.isTold()) {
            return NO_SUCH;
        }
        return search.canCome() ? search.least(search.fewest) : NONE;
    }

    public int plan(int i) {
        return family.isTold() ? search.actOfRow(search.fewest, i) : NO_SUCH;
    }

    public int surest() {
        if (!family.isTold()) {
            return NO_SUCH;
        }
        return search.canCome() ? search.leastAbove(search.safest) : NONE;
    }

    public int surely(int i) {
        return family.isTold() ? search.actOfRow(search.safest, i) : NO_SUCH;
    }

    public int slowly() {
        if (!family.isTold()) {
            return NO_SUCH;
        }
        return search.canCome() ? search.least(search.safest) : NONE;
    }

    public int crossings() {
        if (!family.isTold()) {
            return NO_SUCH;
        }
        return search.canCome() ? search.leastAbove(search.leanest) : NONE;
    }

    public int moves() {
        if (!family.isTold()) {
            return NO_SUCH;
        }
        return search.canCome() ? search.least(search.leanest) : NONE;
    }

    public long chance(int what) {
        if (!family.isTold() || what < 0 || what > 1) {
            return NO_SUCH;
        }
        return search.canCome() ? chanceOfSafest(what) : NONE;
    }

    private long chanceOfSafest(int what) {
        long above = 1;
        long below = 1;
        Row row = search.rowOf(search.safest);
        int crossings = 0;
        for (int i = 0; i < Graph.MOST_STATES; i++) {
            int act = row.take();
            if (act == NONE) {
                break;
            }
            if (act != LOAF) {
                crossings++;
                if (crossings > MOST_IN_FRACTION) {
                    return NONE;
                }
                above *= 100 - family.riskOfAct(act);
                below *= 100;
            }
        }
        long common = commonDivisor(above, below);
        if (common < 1) {
            return NONE;
        }
        return what == 0 ? above / common : below / common;
    }

    private static long commonDivisor(long a, long b) {
        long large = b;
        long small = a;
        // Euclid's rests at least halve every second time: 200 is more than 64-bit numbers need.
        for (int i = 0; i < 200 && small != 0; i++) {
            long rest = large % small;
            large = small;
            small = rest;
        }
        return large;
    }

    public int states() {
        return family.isTold() ? search.countStates() : NO_SUCH;
    }

    public int hopeful() {
        return family.isTold() ? search.countHopeful() : NO_SUCH;
    }

    public int till(int set) {
        if (!family.isTold() || set < 0 || set > family.everyone()) {
            return NO_SUCH;
        }
        return search.soonestJust(set);
    }

    public int over(int person) {
        return family.hasPerson(person) ? search.soonestOver(person) : NO_SUCH;
    }

    public int never() {
        if (!family.isTold()) {
            return NO_SUCH;
        }
        int bits = 0;
        for (int person = 0; person < family.persons; person++) {
            if (search.soonestOver(person) == NONE) {
                bits |= 1 << person;
            }
        }
        return bits;
    }

    public int lost(int n) {
        if (!family.isTold() || n < 0) {
            return NO_SUCH;
        }
        if (!search.canCome()) {
            return NONE;
        }
        Row row = search.rowOf(search.fewest);
        return row.skip(n) == n ? row.overNow() : NONE;
    }

    public int worst() {
        if (!family.isTold()) {
            return NO_SUCH;
        }
        if (!search.canCome()) {
            return NONE;
        }
        Row row = search.rowOf(search.fewest);
        int goal = family.goal();
        int worst = 0;
        int most = Integer.bitCount(row.overNow() ^ goal);
        for (int n = 1; n <= Graph.MOST_STATES && row.take() != NONE; n++) {
            int wrong = Integer.bitCount(row.overNow() ^ goal);
            if (wrong > most) {
                most = wrong;
                worst = n;
            }
        }
        return worst;
    }

    // ---- rows of acts that are judged ----

    public int judge(int slot) {
        int refused = judgeRow(slot);
        return refused != 0 ? refused : judged.count;
    }

    public int there(int slot) {
        int refused = judgeRow(slot);
        return refused != 0 ? refused : judged.over;
    }

    public int takes(int slot) {
        int refused = judgeRow(slot);
        return refused != 0 ? refused : judged.days;
    }

    public int dares(int slot) {
        int refused = judgeRow(slot);
        return refused != 0 ? refused : judged.riskTogether(family);
    }

    public int lied(int slot) {
        int refused = judgeRow(slot);
        return refused != 0 ? refused : judged.countLies();
    }

    /** Walks a slot's row as far as it can be: 0, or why there is no such row. */
    private int judgeRow(int slot) {
        int refused = refusedSlot(slot);
        if (refused != 0) {
            return refused;
        }
        for (int i = 0; i < slots.size[slot]; i++) {
            if (!family.isAct(slots.numbers[slot][i])) {
                return NO_SUCH;
            }
        }
        judged.restart();
        for (int i = 0; i < slots.size[slot]; i++) {
            if (!judged.tries(family, (int) slots.numbers[slot][i])) {
                return 0;
            }
        }
        return 0;
    }

    private int refusedSlot(int slot) {
        if (!slots.exists(slot) || !family.isTold()) {
            return NO_SUCH;
        }
        return slots.hasRow(slot) ? 0 : NOTHING;
    }

    // ---- rows of stamps ----

    public long stamped(int slot) {
        int refused = refusedStamps(slot);
        if (refused != 0) {
            return refused;
        }
        enterStamps(slot, NONE, NONE);
        return ledger.countRows();
    }

    public int had(int slot, int i) {
        if (i < 0) {
            return NO_SUCH;
        }
        int refused = refusedStamps(slot);
        if (refused != 0) {
            return refused;
        }
        int bits = 0;
        for (int person = 0; person < family.persons && i < slots.size[slot]; person++) {
            enterStamps(slot, i, person);
            if (ledger.countRows() > 0) {
                bits |= 1 << person;
            }
        }
        return bits;
    }

    public int sure(int slot, int what) {
        if (what < 0 || what > 1) {
            return NO_SUCH;
        }
        int refused = refusedStamps(slot);
        if (refused != 0) {
            return refused;
        }
        enterStamps(slot, NONE, NONE);
        return what == 0 ? ledger.overInAll() : ledger.overInSome();
    }

    public int dared(int slot) {
        int refused = refusedStamps(slot);
        if (refused != 0) {
            return refused;
        }
        enterStamps(slot, NONE, NONE);
        return ledger.leastRisk();
    }

    private int refusedStamps(int slot) {
        int refused = refusedSlot(slot);
        if (refused != 0) {
            return refused;
        }
        if (slots.size[slot] > MOST_STAMPS) {
            return NO_SUCH;
        }
        for (int i = 0; i < slots.size[slot]; i++) {
            if (!family.isStamp(slots.numbers[slot][i])) {
                return NO_SUCH;
            }
        }
        return 0;
    }

    /** All rows that give a slot's stamps; with a place, those alone in which a person has the passport there. */
    private void enterStamps(int slot, int place, int person) {
        ledger.open();
        for (int i = 0; i < slots.size[slot]; i++) {
            int only = i == place ? 1 << person : family.everyone();
            ledger.enter(family, search.rules, (int) slots.numbers[slot][i], only);
        }
    }

    public int alone(int post, int n) {
        if (!family.hasPost(post) || n < 0 || n > MOST_STAMPS) {
            return NO_SUCH;
        }
        if (n < 2) {
            return 0;
        }
        return family.looks[post] == 0 ? n - 1 : NONE;
    }

    // ---- whom and what to change ----

    public int worth(int person, int n) {
        if (!family.hasPerson(person) || n < 0 || n > 100) {
            return NO_SUCH;
        }
        return search.canCome() ? search.gain(person, n) : NONE;
    }

    public int whom(int n) {
        if (!family.isTold() || n < 0 || n > 100) {
            return NO_SUCH;
        }
        if (!search.canCome()) {
            return NONE;
        }
        int best = 0;
        int who = NONE;
        for (int person = 0; person < family.persons; person++) {
            int gain = search.gain(person, n);
            if (gain > best) {
                best = gain;
                who = person;
            }
        }
        return who;
    }

    public int blur(int post) {
        return family.hasPost(post) ? search.leastKeen(post) : NO_SUCH;
    }

    public int looks(int post) {
        return family.hasPost(post) ? search.greatestLooks(post) : NO_SUCH;
    }

    // ---- trips drawn ----

    public int drawn(int seed, int what) {
        if (!family.isTold() || !isSeed(seed) || what < 0 || what > 1 || !search.canCome()) {
            return NO_SUCH;
        }
        int caught = caughtAt(seed);
        if (what == 0) {
            return caught;
        }
        if (caught == NONE) {
            return family.goal();
        }
        Row row = search.rowOf(search.safest);
        row.skip(caught);
        return row.overNow();
    }

    public int luck(int seed, int n) {
        if (!family.isTold() || !isSeed(seed) || n < 1 || n > 20 || !search.canCome()) {
            return NO_SUCH;
        }
        int lucky = 0;
        for (int i = 0; i < n; i++) {
            if (caughtAt(seed + i) == NONE) {
                lucky++;
            }
        }
        return lucky;
    }

    private static boolean isSeed(int seed) {
        return seed >= 0 && seed <= MOST_SEED;
    }

    /** The place in the safest row at which one is caught; NONE if nobody is. */
    private int caughtAt(int seed) {
        long x = seed;
        Row row = search.rowOf(search.safest);
        for (int i = 0; i < Graph.MOST_STATES; i++) {
            int act = row.take();
            if (act == NONE) {
                break;
            }
            if (act != LOAF) {
                x = (1103515245L * x + 12345L) % 2147483648L;
                if (x / 65536 % 100 < family.riskOfAct(act)) {
                    return i;
                }
            }
        }
        return NONE;
    }

    // ---- changes, counts and images ----

    public int grow(int person, int like) {
        if (!family.hasPerson(person) || like < 0 || like > 100) {
            return NO_SUCH;
        }
        int was = family.like[person];
        family.like[person] = like;
        search.forgetRisks();
        return was;
    }

    public int guard(int post, int strict) {
        if (!family.hasPost(post) || strict < 0 || strict > 100) {
            return NO_SUCH;
        }
        int was = family.strict[post];
        family.strict[post] = strict;
        search.forgetRisks();
        return was;
    }

    public int stay(int person, int is) {
        if (!family.hasPerson(person) || is < 0 || is > 1) {
            return NO_SUCH;
        }
        int was = family.stays[person];
        family.stays[person] = is;
        search.forgetGoal();
        return was;
    }

    public int count(int what) {
        switch (what) {
            case 0: return family.persons;
            case 1: return family.posts;
            case 2: return family.loaf;
            case 3: return Integer.bitCount(family.children());
            case 4: return Integer.bitCount(family.staying());
            case 5: return family.compare;
            case 6: return walk.count;
            case 7: return family.lines;
            case 8: return tape.length;
            case 9: return slots.countRows();
            default: return NONE;
        }
    }

    public int image(int k) {
        if (k < 0 || k >= IMAGES) {
            return NO_SUCH;
        }
        imageFamilies[k].copyFrom(family);
        imageWalks[k].copyFrom(walk);
        imageKept[k] = true;
        return 0;
    }

    public int back(int k) {
        if (k < 0 || k >= IMAGES) {
            return NO_SUCH;
        }
        if (!imageKept[k]) {
            return NOTHING;
        }
        family.copyFrom(imageFamilies[k]);
        walk.copyFrom(imageWalks[k]);
        search.beginFamily();
        return 0;
    }

    // ---- slots ----

    public int row(int slot, int width, int n) {
        if (!slots.exists(slot) || width < 0 || width > 3 || n > MOST_NUMBERS) {
            return NO_SUCH;
        }
        if (n < 0) {
            return BELOW_ZERO;
        }
        slots.lay(slot, width, n);
        return 0;
    }

    public int write(int slot, int i, long v) {
        if (!slots.exists(slot)) {
            return NO_SUCH;
        }
        if (!slots.hasRow(slot)) {
            return NOTHING;
        }
        if (i < 0 || i >= slots.size[slot]) {
            return BEYOND;
        }
        slots.numbers[slot][i] = Slots.cut(v, slots.width[slot]);
        return 0;
    }

    public int paste(int slot, int i, int to, int k, int n) {
        if (!slots.exists(slot) || !slots.exists(to)) {
            return NO_SUCH;
        }
        if (!slots.hasRow(slot) || !slots.hasRow(to)) {
            return NOTHING;
        }
        if (slots.width[slot] != slots.width[to]) {
            return OTHER_WIDTH;
        }
        if (!slots.holds(slot, i, n) || !slots.holds(to, k, n)) {
            return BEYOND;
        }
        System.arraycopy(slots.numbers[slot], i, slots.numbers[to], k, n);
        return 0;
    }

    // ---- the parts ----

    /** The bytes that are fed, and how they are read: the first fault ends the reading. */
    private static final class Tape {
        static final int MOST = 600;

        private static final int THE_END = 0;
        private static final int WORD = 1;
        private static final int NUMBER = 2;
        private static final int SEMICOLON = 3;
        private static final int BLANK = 4;
        private static final int NO_TOKEN = 5;

        private static final int MISPLACED = 1;
        private static final int OUT_OF_BOUNDS = 2;
        private static final int TOO_MANY = 3;

        final byte[] bytes = new byte[MOST];
        int length;
        int fault;
        int place = NONE;
        private int kind;
        private int start;
        private int stop;

        void append(int word) {
            for (int shift = 24; shift >= 0 && length < MOST; shift -= 8) {
                bytes[length] = (byte) (word >>> shift);
                length++;
            }
        }

        void readInto(Family draft) {
            fault = 0;
            place = NONE;
            stop = 0;
            draft.clear();
            step();
            for (int i = 0; i <= MOST && fault == 0 && kind != THE_END; i++) {
                readLine(draft);
            }
        }

        private void readLine(Family draft) {
            boolean first = draft.lines == 0;
            if (first && isWord("family")) {
                readFamily(draft);
            } else if (!first && isWord("person")) {
                readPerson(draft);
            } else if (!first && isWord("post")) {
                readPost(draft);
            } else {
                fail(MISPLACED);
            }
            if (fault == 0 && kind != SEMICOLON) {
                fail(MISPLACED);
            }
            if (fault == 0) {
                step();
                draft.lines++;
            }
        }

        private void readFamily(Family draft) {
            step();
            draft.loaf = numberBehind("loaf", 1, 9);
            if (fault == 0 && isWord("compare")) {
                draft.compare = 1;
                step();
            }
        }

        private void readPerson(Family draft) {
            int person = draft.persons;
            if (person >= MOST_PERSONS) {
                fail(TOO_MANY);
                return;
            }
            step();
            draft.like[person] = numberBehind("like", 0, 100);
            draft.nose[person] = numberBehind("nose", 0, 9);
            draft.child[person] = 0;
            draft.stays[person] = 0;
            for (int i = 0; i < 2 && fault == 0 && kind == WORD; i++) {
                readMark(draft, person);
            }
            draft.persons++;
        }

        private void readMark(Family draft, int person) {
            if (isWord("child") && draft.child[person] == 0) {
                draft.child[person] = 1;
                step();
            } else if (isWord("stays") && draft.stays[person] == 0) {
                draft.stays[person] = 1;
                step();
            } else {
                fail(MISPLACED);
            }
        }

        private void readPost(Family draft) {
            int post = draft.posts;
            if (post >= MOST_POSTS) {
                fail(TOO_MANY);
                return;
            }
            step();
            draft.strict[post] = numberBehind("strict", 0, 100);
            draft.keen[post] = numberBehind("keen", 0, 9);
            draft.looks[post] = numberBehind("looks", 0, 3);
            draft.posts++;
        }

        private int numberBehind(String word, int least, int most) {
            if (fault != 0) {
                return 0;
            }
            if (!isWord(word)) {
                fail(MISPLACED);
                return 0;
            }
            step();
            if (kind != NUMBER) {
                fail(MISPLACED);
                return 0;
            }
            int number = numberHere();
            if (number < least || number > most) {
                fail(OUT_OF_BOUNDS);
                return 0;
            }
            step();
            return number;
        }

        private int numberHere() {
            int number = 0;
            for (int at = start; at < stop; at++) {
                // There may be hundreds of digits: all from 999 on are out of every bound alike.
                number = Math.min(999, number * 10 + byteAt(at) - '0');
            }
            return number;
        }

        private void fail(int which) {
            if (fault == 0) {
                fault = which;
                place = start;
            }
        }

        private boolean isWord(String word) {
            if (kind != WORD || stop - start != word.length()) {
                return false;
            }
            for (int i = 0; i < word.length(); i++) {
                if (byteAt(start + i) != word.charAt(i)) {
                    return false;
                }
            }
            return true;
        }

        private void step() {
            start = stop;
            while (start < length && kindAt(start) == BLANK) {
                start++;
            }
            stop = start;
            kind = kindAt(start);
            if (kind != THE_END) {
                stop++;
            }
            boolean isLong = kind == WORD || kind == NUMBER;
            while (isLong && stop < length && kindAt(stop) == kind) {
                stop++;
            }
        }

        private int kindAt(int at) {
            if (at < 0 || at >= length || at >= MOST) {
                return THE_END;
            }
            int b = bytes[at];
            if (b >= 'a' && b <= 'z') {
                return WORD;
            }
            if (b >= '0' && b <= '9') {
                return NUMBER;
            }
            switch (b) {
                case ';': return SEMICOLON;
                case ' ': return BLANK;
                case '\n': return BLANK;
                default: return NO_TOKEN;
            }
        }

        private int byteAt(int at) {
            return at >= 0 && at < length && at < MOST ? bytes[at] & 255 : NONE;
        }
    }

    /** Who and what there is. */
    private static final class Family {
        int lines;
        int loaf;
        int compare;
        int persons;
        int posts;
        final int[] like = new int[MOST_PERSONS];
        final int[] nose = new int[MOST_PERSONS];
        final int[] child = new int[MOST_PERSONS];
        final int[] stays = new int[MOST_PERSONS];
        final int[] strict = new int[MOST_POSTS];
        final int[] keen = new int[MOST_POSTS];
        final int[] looks = new int[MOST_POSTS];

        void clear() {
            lines = 0;
            loaf = 0;
            compare = 0;
            persons = 0;
            posts = 0;
        }

        void copyFrom(Family other) {
            lines = other.lines;
            loaf = other.loaf;
            compare = other.compare;
            persons = other.persons;
            posts = other.posts;
            System.arraycopy(other.like, 0, like, 0, MOST_PERSONS);
            System.arraycopy(other.nose, 0, nose, 0, MOST_PERSONS);
            System.arraycopy(other.child, 0, child, 0, MOST_PERSONS);
            System.arraycopy(other.stays, 0, stays, 0, MOST_PERSONS);
            System.arraycopy(other.strict, 0, strict, 0, MOST_POSTS);
            System.arraycopy(other.keen, 0, keen, 0, MOST_POSTS);
            System.arraycopy(other.looks, 0, looks, 0, MOST_POSTS);
        }

        boolean isTold() {
            return lines > 0;
        }

        boolean hasPerson(int person) {
            return person >= 0 && person < persons;
        }

        boolean hasPersonOrNone(int person) {
            return person == NONE || hasPerson(person);
        }

        boolean hasPost(int post) {
            return post >= 0 && post < posts;
        }

        boolean hasCrossing(int person, int child, int post) {
            return hasPerson(person) && hasPersonOrNone(child) && hasPost(post);
        }

        boolean isAct(long number) {
            if (number < 0 || number > LOAF) {
                return false;
            }
            int act = (int) number;
            return act == LOAF || hasCrossing(personOf(act), childOf(act), postOf(act));
        }

        boolean isStamp(long number) {
            if (number == 0 || number == 1) {
                return hasPost(0);
            }
            return (number == 10 || number == 11) && hasPost(1);
        }

        int everyone() {
            return (1 << persons) - 1;
        }

        int children() {
            return bitsOf(child);
        }

        int staying() {
            return bitsOf(stays);
        }

        /** Who is over at the end. */
        int goal() {
            return everyone() & ~staying();
        }

        private int bitsOf(int[] mark) {
            int bits = 0;
            for (int person = 0; person < persons; person++) {
                bits |= mark[person] << person;
            }
            return bits;
        }

        /** Who may cross at a post that remembers one (or NONE), stamps aside. */
        int adultsBehind(int last, int post) {
            int bits = 0;
            for (int person = 0; person < persons; person++) {
                if (child[person] == 0 && (last == NONE || Math.abs(nose[person] - nose[last]) <= keen[post])) {
                    bits |= 1 << person;
                }
            }
            return bits;
        }

        int riskOf(int person, int post) {
            return (100 - like[person]) * strict[post] / 100;
        }

        int riskOfAct(int act) {
            return act == LOAF ? 0 : riskOf(personOf(act), postOf(act));
        }

        static int personOf(int act) {
            return act % 10;
        }

        static int childOf(int act) {
            return act / 10 % 10 - 1;
        }

        static int postOf(int act) {
            return act / 100;
        }

        static int actOf(int person, int child, int post) {
            return 100 * post + 10 * (child + 1) + person;
        }
    }

    /** Acts one by one, from all here on, and what comes of them. */
    private static final class Walk {
        final int[] acts = new int[MOST_NUMBERS];
        final int[] stamps = new int[MOST_NUMBERS];
        final int[] last = new int[MOST_POSTS];
        int count;
        int stampCount;
        int over;
        int side;
        int days;
        int trail;

        Walk() {
            restart();
        }

        void restart() {
            count = 0;
            stampCount = 0;
            over = 0;
            side = 0;
            days = 0;
            trail = Rules.NO_TRAIL;
            Arrays.fill(last, NONE);
        }

        void copyFrom(Walk other) {
            System.arraycopy(other.acts, 0, acts, 0, MOST_NUMBERS);
            System.arraycopy(other.stamps, 0, stamps, 0, MOST_NUMBERS);
            System.arraycopy(other.last, 0, last, 0, MOST_POSTS);
            count = other.count;
            stampCount = other.stampCount;
            over = other.over;
            side = other.side;
            days = other.days;
            trail = other.trail;
        }

        void replay(Family family, int n) {
            restart();
            for (int i = 0; i < n && i < MOST_NUMBERS; i++) {
                tries(family, acts[i]);
            }
        }

        /** The first of the reasons why such a crossing can't be; 0 if it can. */
        int hindrance(Family family, int person, int child, int post) {
            int near = side == 1 ? over : family.everyone() & ~over;
            if (!isIn(near, person)) {
                return 1;
            }
            if (family.child[person] == 1) {
                return 2;
            }
            if (child != NONE && !isIn(near & family.children(), child)) {
                return 3;
            }
            if (!isIn(family.adultsBehind(last[post], post), person)) {
                return 4;
            }
            return Rules.fits(trail, side, family.looks[post]) ? 0 : 5;
        }

        private static boolean isIn(int bits, int person) {
            return ((bits >> person) & 1) == 1;
        }

        /** Does an act if it can be: whether it could. */
        boolean tries(Family family, int act) {
            if (act == LOAF) {
                send(family);
                return true;
            }
            int person = Family.personOf(act);
            int child = Family.childOf(act);
            int post = Family.postOf(act);
            if (hindrance(family, person, child, post) != 0) {
                return false;
            }
            pass(family, person, child, post);
            return true;
        }

        void pass(Family family, int person, int child, int post) {
            note(Family.actOf(person, child, post));
            if (stampCount < MOST_NUMBERS) {
                stamps[stampCount] = 10 * post + side;
                stampCount++;
            }
            trail = Rules.longer(trail, side);
            over ^= 1 << person;
            if (child != NONE) {
                over ^= 1 << child;
            }
            side = 1 - side;
            days++;
            for (int other = 0; other < family.posts; other++) {
                if (other == post || family.compare == 1) {
                    last[other] = person;
                }
            }
        }

        void send(Family family) {
            note(LOAF);
            side = 1 - side;
            days += family.loaf;
        }

        private void note(int act) {
            if (count < MOST_NUMBERS) {
                acts[count] = act;
                count++;
            }
        }

        int countLies() {
            int lies = 0;
            for (int i = 1; i < stampCount; i++) {
                if (stamps[i] % 10 == stamps[i - 1] % 10) {
                    lies++;
                }
            }
            return lies;
        }

        int riskTogether(Family family) {
            int risk = 0;
            for (int i = 0; i < count; i++) {
                risk += family.riskOfAct(acts[i]);
            }
            return risk;
        }
    }

    /**
     * What a family's posts let happen, on states in one number each: who is over (6 bits), the side of the
     * passport (1), whom each post remembers and 1 (3 each), the trail (4).
     * A trail is the latest three stamps: a 1, behind it a bit for each (1: back), the latest one lowest.
     */
    private static final class Rules {
        static final int STATES = 1 << 17;
        static final int NO_TRAIL = 1;

        private static final int TRAILS = 16;
        private static final int SIDE = 1 << 6;
        private static final int FIRST_MEMORY = 7;
        private static final int SECOND_MEMORY = 10;
        private static final int TRAIL = 13;
        private static final int MEMORIES = 8;
        // Three who may cross, each with one of three children or none, at two posts; and the loaf.
        private static final int MOST_OPTIONS = 25;

        final int[] acts = new int[MOST_OPTIONS];
        final int[] states = new int[MOST_OPTIONS];
        private final int[] behind = new int[MOST_POSTS * MEMORIES];
        private final int[] kept = new int[MOST_POSTS * MEMORIES];
        private final int[] trails = new int[TRAILS];
        // By a trail twice and the stamp that comes: the trail then, and whether a post lets it come.
        private final int[] nextTrails = new int[2 * TRAILS];
        private final boolean[] lets = new boolean[MOST_POSTS * 2 * TRAILS];
        private int everyone;
        private int children;
        private int persons;
        private int posts;
        private boolean compare;

        static int longer(int trail, int stamp) {
            int next = trail * 2 + stamp;
            return next < TRAILS ? next : 8 | (next & 7);
        }

        static boolean fits(int trail, int stamp, int looks) {
            int next = stamp;
            int rest = trail;
            for (int i = 0; i < looks && rest > NO_TRAIL; i++) {
                if ((rest & 1) == next) {
                    return false;
                }
                next = rest & 1;
                rest >>= 1;
            }
            return true;
        }

        /** One trail for all those that posts of so many looks at most can't tell apart, now and later. */
        private static int mergedTrail(int trail, int looks) {
            if (looks == 0 || trail <= NO_TRAIL) {
                return NO_TRAIL;
            }
            int latest = trail & 1;
            int rest = trail >> 1;
            int turns = 1;
            while (turns < 3 && rest > NO_TRAIL && (rest & 1) == ((latest + turns) & 1)) {
                rest >>= 1;
                turns++;
            }
            // Stamps never made, and those beyond every look, hinder as little as stamps in turn.
            if (rest <= NO_TRAIL || turns >= looks) {
                return latest == 0 ? 10 : 13;
            }
            if (turns == 1) {
                return latest == 0 ? 4 : 7;
            }
            return latest == 0 ? 14 : 9;
        }

        /** With merging, states from which just the same acts can be, now and later, are one. */
        void learn(Family family, boolean merging) {
            everyone = family.everyone();
            children = family.children();
            persons = family.persons;
            posts = family.posts;
            compare = family.compare == 1;
            Arrays.fill(behind, 0);
            Arrays.fill(kept, 0);
            int mostLooks = 0;
            for (int post = 0; post < posts; post++) {
                mostLooks = Math.max(mostLooks, family.looks[post]);
                for (int memory = 0; memory <= persons; memory++) {
                    behind[post * MEMORIES + memory] = family.adultsBehind(memory - 1, post);
                    kept[post * MEMORIES + memory] = merging ? firstAlike(post, memory) : memory;
                }
            }
            for (int trail = 0; trail < TRAILS; trail++) {
                trails[trail] = merging ? mergedTrail(trail, mostLooks) : trail;
            }
            learnStamps(family);
        }

        private void learnStamps(Family family) {
            for (int trail = NO_TRAIL; trail < TRAILS; trail++) {
                for (int stamp = 0; stamp < 2; stamp++) {
                    int turn = 2 * trail + stamp;
                    nextTrails[turn] = trails[longer(trail, stamp)];
                    for (int post = 0; post < posts; post++) {
                        lets[post * 2 * TRAILS + turn] = fits(trail, stamp, family.looks[post]);
                    }
                }
            }
        }

        private int firstAlike(int post, int memory) {
            for (int first = 0; first < memory; first++) {
                if (behind[post * MEMORIES + first] == behind[post * MEMORIES + memory]) {
                    return first;
                }
            }
            return memory;
        }

        static int overIn(int state) {
            return state & (SIDE - 1);
        }

        static int beginning() {
            return NO_TRAIL << TRAIL;
        }

        int stateOf(Walk walk) {
            int first = kept[walk.last[0] + 1];
            int second = kept[MEMORIES + walk.last[1] + 1];
            return walk.over | walk.side * SIDE | (first << FIRST_MEMORY) | (second << SECOND_MEMORY)
                    | (trails[walk.trail] << TRAIL);
        }

        /** The state of these rules that stands for one of rules without merging. */
        int merged(int state) {
            int first = kept[(state >> FIRST_MEMORY) & 7];
            int second = kept[MEMORIES + ((state >> SECOND_MEMORY) & 7)];
            return (state & (2 * SIDE - 1)) | (first << FIRST_MEMORY) | (second << SECOND_MEMORY)
                    | (trails[(state >> TRAIL) & (TRAILS - 1)] << TRAIL);
        }

        /** Lists the acts that can be in a state, the least first, and the states behind them: how many. */
        int list(int state) {
            int side = (state / SIDE) & 1;
            int over = state & (SIDE - 1);
            int near = side == 1 ? over : everyone & ~over;
            int turn = 2 * ((state >> TRAIL) & (TRAILS - 1)) + side;
            int first = (state >> FIRST_MEMORY) & 7;
            int second = (state >> SECOND_MEMORY) & 7;
            int n = 0;
            for (int post = 0; post < posts; post++) {
                int can = near & behind[post * MEMORIES + (post == 0 ? first : second)];
                boolean firstToo = compare || post == 0;
                boolean secondToo = compare || post == 1;
                boolean isOpen = can != 0 && lets[post * 2 * TRAILS + turn];
                for (int child = NONE; child < persons && isOpen; child++) {
                    int with = child == NONE ? 0 : 1 << child;
                    if ((near & children & with) != with) {
                        continue;
                    }
                    for (int person = 0; person < persons && n < MOST_OPTIONS; person++) {
                        if (((can >> person) & 1) == 1) {
                            acts[n] = Family.actOf(person, child, post);
                            states[n] = (over ^ with ^ (1 << person)) | ((1 - side) * SIDE)
                                    | ((firstToo ? kept[person + 1] : first) << FIRST_MEMORY)
                                    | ((secondToo ? kept[MEMORIES + person + 1] : second) << SECOND_MEMORY)
                                    | (nextTrails[turn] << TRAIL);
                            n++;
                        }
                    }
                }
            }
            if (n < MOST_OPTIONS) {
                acts[n] = LOAF;
                states[n] = state ^ SIDE;
                n++;
            }
            return n;
        }
    }

    /** All merged states that there can be from all here on, numbered as they are found, with their acts. */
    private static final class Graph {
        // Who is over, the side, the memories of two posts, seven merged trails.
        static final int MOST_STATES = 64 * 2 * 7 * 7 * 7;
        // Of six without a child: seven acts a state, taken over all. Any child makes it less.
        private static final int MOST_EDGES = 7 * MOST_STATES;

        int size;
        private final int[] numberOf = new int[Rules.STATES];
        private final int[] stateAt = new int[MOST_STATES];
        private final int[] firstEdge = new int[MOST_STATES + 1];
        private final int[] edges = new int[MOST_EDGES];
        private int edgeCount;

        void build(Rules rules) {
            for (int i = 0; i < size; i++) {
                numberOf[stateAt[i]] = 0;
            }
            size = 0;
            edgeCount = 0;
            number(Rules.beginning());
            for (int i = 0; i < size && i < MOST_STATES; i++) {
                int n = rules.list(stateAt[i]);
                for (int k = 0; k < n; k++) {
                    link(number(rules.states[k]), rules.acts[k]);
                }
                firstEdge[i + 1] = edgeCount;
            }
        }

        /** An edge is the number of the state behind it, and its act in the low byte. */
        private void link(int to, int act) {
            if (to != NONE && edgeCount < MOST_EDGES) {
                edges[edgeCount] = to << 8 | act;
                edgeCount++;
            }
        }

        private int number(int state) {
            if (numberOf[state] == 0 && size < MOST_STATES) {
                stateAt[size] = state;
                size++;
                numberOf[state] = size;
            }
            return numberOf[state] - 1;
        }

        int find(int state) {
            return state >= 0 && state < Rules.STATES ? numberOf[state] - 1 : NONE;
        }

        int overAt(int at) {
            return at >= 0 && at < size ? Rules.overIn(stateAt[at]) : 0;
        }

        static int actOf(int edge) {
            return edge & 255;
        }

        static int targetOf(int edge) {
            return edge >> 8;
        }

        /** The least cost from each state to one in which just a set is over. */
        void settle(Measure measure, int goal) {
            long[] cost = measure.cost;
            for (int i = 0; i < size; i++) {
                cost[i] = overAt(i) == goal ? 0 : Measure.NEVER;
            }
            boolean changed = true;
            for (int round = 0; round <= size && changed; round++) {
                changed = false;
                // States are found from the beginning on, so what comes behind them settles first from the end on.
                for (int i = size - 1; i >= 0; i--) {
                    long best = cheapest(measure, i);
                    if (best < cost[i]) {
                        cost[i] = best;
                        changed = true;
                    }
                }
            }
        }

        private long cheapest(Measure measure, int at) {
            long[] cost = measure.cost;
            long[] weight = measure.weight;
            long best = cost[at];
            if (best == 0) {
                return 0;
            }
            for (int e = firstEdge[at]; e < firstEdge[at + 1]; e++) {
                best = Math.min(best, cost[targetOf(edges[e])] + weight[actOf(edges[e])]);
            }
            return best;
        }

        /** The least cost from one state to each. */
        void spread(Measure measure, int from) {
            long[] cost = measure.cost;
            for (int i = 0; i < size; i++) {
                cost[i] = i == from ? 0 : Measure.NEVER;
            }
            boolean changed = true;
            for (int round = 0; round <= size && changed; round++) {
                changed = false;
                for (int i = 0; i < size; i++) {
                    if (cost[i] < Measure.NEVER && cheapens(measure, i)) {
                        changed = true;
                    }
                }
            }
        }

        private boolean cheapens(Measure measure, int at) {
            long[] cost = measure.cost;
            boolean changed = false;
            for (int e = firstEdge[at]; e < firstEdge[at + 1]; e++) {
                int to = targetOf(edges[e]);
                long sum = cost[at] + measure.weight[actOf(edges[e])];
                if (sum < cost[to]) {
                    cost[to] = sum;
                    changed = true;
                }
            }
            return changed;
        }

        /** The edge by which the first of the best rows goes on from a state; NONE at the end, and where none comes. */
        int bestEdge(Measure measure, int at) {
            long[] cost = measure.cost;
            if (at < 0 || at >= size || cost[at] == 0 || cost[at] >= Measure.NEVER) {
                return NONE;
            }
            for (int e = firstEdge[at]; e < firstEdge[at + 1]; e++) {
                if (cost[targetOf(edges[e])] + measure.weight[actOf(edges[e])] == cost[at]) {
                    return edges[e];
                }
            }
            return NONE;
        }
    }

    /** What acts cost, and what it costs to come to the end: what counts first above, what counts then below. */
    private static final class Measure {
        static final int DAYS = 0;
        static final int RISK = 1;
        static final int CROSSINGS = 2;
        static final long NEVER = 1L << 60;

        // No row of states that differ takes 1 << 20 days.
        private static final int SHIFT = 20;

        final long[] cost = new long[Graph.MOST_STATES];
        final long[] weight = new long[256];
        boolean ready;
        final int kind;

        Measure(int kind) {
            this.kind = kind;
        }

        void weigh(Family family, int by) {
            for (int post = 0; post < family.posts; post++) {
                for (int person = 0; person < family.persons; person++) {
                    long above = aboveOf(by, family.riskOf(person, post));
                    for (int child = NONE; child < family.persons; child++) {
                        weight[Family.actOf(person, child, post)] = (above << SHIFT) + 1;
                    }
                }
            }
            weight[LOAF] = by == CROSSINGS ? 1 : family.loaf;
        }

        private static long aboveOf(int by, int risk) {
            switch (by) {
                case RISK: return risk;
                case CROSSINGS: return 1;
                default: return 0;
            }
        }

        int above(int at) {
            return (int) (cost[at] >> SHIFT);
        }

        int below(int at) {
            return (int) (cost[at] & ((1L << SHIFT) - 1));
        }

        boolean comes(int at) {
            return cost[at] < NEVER;
        }
    }

    /** The first of the best rows, act by act. */
    private static final class Row {
        private final Graph graph;
        private Measure measure;
        private int at;

        Row(Graph graph) {
            this.graph = graph;
            at = NONE;
        }

        void start(Measure by, int from) {
            measure = by;
            at = from;
        }

        /** The next act; NONE at the end. */
        int take() {
            if (measure == null) {
                return NONE;
            }
            int edge = graph.bestEdge(measure, at);
            if (edge == NONE) {
                return NONE;
            }
            at = Graph.targetOf(edge);
            return Graph.actOf(edge);
        }

        /** Takes so many acts, if there are: how many it took. */
        int skip(int n) {
            int taken = 0;
            while (taken < n && take() != NONE) {
                taken++;
            }
            return taken;
        }

        int overNow() {
            return graph.overAt(at);
        }
    }

    /** All states that there can be by some rules, from one on. */
    private static final class Flood {
        private static final int MOST_STATES = 64 * 2 * 7 * 7 * 15;

        int size;
        final int[] found = new int[MOST_STATES];
        private final long[] isFound = new long[Rules.STATES / 64];

        private void begin(int start) {
            Arrays.fill(isFound, 0);
            size = 0;
            add(start);
        }

        private void add(int state) {
            long bit = 1L << (state & 63);
            if ((isFound[state / 64] & bit) == 0 && size < MOST_STATES) {
                isFound[state / 64] |= bit;
                found[size] = state;
                size++;
            }
        }

        private void addBehind(Rules rules, int state) {
            int n = rules.list(state);
            for (int k = 0; k < n; k++) {
                add(rules.states[k]);
            }
        }

        void fill(Rules rules, int start) {
            begin(start);
            for (int i = 0; i < size && i < MOST_STATES; i++) {
                addBehind(rules, found[i]);
            }
        }

        boolean reaches(Rules rules, int start, int goal) {
            begin(start);
            for (int i = 0; i < size && i < MOST_STATES; i++) {
                if (Rules.overIn(found[i]) == goal) {
                    return true;
                }
                addBehind(rules, found[i]);
            }
            return false;
        }
    }

    /** What can come from now on; what was found is kept until it may be otherwise. */
    private static final class Search {
        final Measure fewest = new Measure(Measure.DAYS);
        final Measure safest = new Measure(Measure.RISK);
        final Measure leanest = new Measure(Measure.CROSSINGS);
        private final Measure spare = new Measure(Measure.DAYS);
        private final Family family;
        private final Walk walk;
        private final Family changed = new Family();
        final Rules rules = new Rules();
        private final Rules otherRules = new Rules();
        private final Graph graph = new Graph();
        private final Flood flood = new Flood();
        private final Row row = new Row(graph);
        private final int[] soonest = new int[1 << MOST_PERSONS];
        private int soonestFrom = NONE;
        private boolean graphBuilt;
        private int stateCount = NONE;
        private int hopefulCount = NONE;

        Search(Family family, Walk walk) {
            this.family = family;
            this.walk = walk;
        }

        void beginFamily() {
            rules.learn(family, true);
            graphBuilt = false;
            soonestFrom = NONE;
            stateCount = NONE;
            forgetGoal();
        }

        void forgetGoal() {
            fewest.ready = false;
            leanest.ready = false;
            hopefulCount = NONE;
            forgetRisks();
        }

        void forgetRisks() {
            safest.ready = false;
        }

        int countOptions() {
            return rules.list(rules.stateOf(walk));
        }

        int option(int i) {
            int n = countOptions();
            return i >= 0 && i < n ? rules.acts[i] : NONE;
        }

        private int here() {
            if (!graphBuilt) {
                graph.build(rules);
                graphBuilt = true;
            }
            return graph.find(rules.stateOf(walk));
        }

        private void prepare(Measure measure) {
            if (!measure.ready) {
                measure.weigh(family, measure.kind);
                graph.settle(measure, family.goal());
                measure.ready = true;
            }
        }

        boolean canCome() {
            int at = here();
            prepare(fewest);
            return at != NONE && fewest.comes(at);
        }

        /** What counts above of the least cost; the end can come. */
        int leastAbove(Measure measure) {
            int at = here();
            prepare(measure);
            return at == NONE ? NONE : measure.above(at);
        }

        int least(Measure measure) {
            int at = here();
            prepare(measure);
            return at == NONE ? NONE : measure.below(at);
        }

        Row rowOf(Measure measure) {
            int at = here();
            prepare(measure);
            row.start(measure, at);
            return row;
        }

        int actOfRow(Measure measure, int i) {
            if (i < 0) {
                return NONE;
            }
            Row best = rowOf(measure);
            return best.skip(i) == i ? best.take() : NONE;
        }

        int countStates() {
            if (stateCount == NONE) {
                fillWhole();
                stateCount = flood.size;
            }
            return stateCount;
        }

        int countHopeful() {
            if (hopefulCount == NONE) {
                here();
                prepare(fewest);
                fillWhole();
                stateCount = flood.size;
                hopefulCount = 0;
                for (int i = 0; i < flood.size; i++) {
                    int at = graph.find(rules.merged(flood.found[i]));
                    if (at != NONE && fewest.comes(at)) {
                        hopefulCount++;
                    }
                }
            }
            return hopefulCount;
        }

        private void fillWhole() {
            otherRules.learn(family, false);
            flood.fill(otherRules, Rules.beginning());
        }

        int soonestJust(int set) {
            findSoonest();
            return set >= 0 && set < soonest.length ? soonest[set] : NONE;
        }

        int soonestOver(int person) {
            findSoonest();
            int best = NONE;
            for (int set = 0; set < soonest.length; set++) {
                if (((set >> person) & 1) == 1 && soonest[set] != NONE && (best == NONE || soonest[set] < best)) {
                    best = soonest[set];
                }
            }
            return best;
        }

        private void findSoonest() {
            int at = here();
            if (at == NONE || at == soonestFrom) {
                return;
            }
            spare.weigh(family, Measure.DAYS);
            graph.spread(spare, at);
            Arrays.fill(soonest, NONE);
            for (int i = 0; i < graph.size; i++) {
                int set = graph.overAt(i);
                if (spare.comes(i) && (soonest[set] == NONE || spare.below(i) < soonest[set])) {
                    soonest[set] = spare.below(i);
                }
            }
            soonestFrom = at;
        }

        /** By how much the least risk is less with one more like the picture; the end can come. */
        int gain(int person, int more) {
            int at = here();
            changed.copyFrom(family);
            changed.like[person] = Math.min(100, changed.like[person] + more);
            if (at == NONE || changed.child[person] == 1 || changed.like[person] == family.like[person]) {
                return 0;
            }
            prepare(safest);
            spare.weigh(changed, Measure.RISK);
            graph.settle(spare, family.goal());
            return safest.above(at) - spare.above(at);
        }

        int leastKeen(int post) {
            for (int keen = 0; keen <= 9; keen++) {
                changed.copyFrom(family);
                changed.keen[post] = keen;
                if (changedCanCome()) {
                    return keen;
                }
            }
            return NONE;
        }

        int greatestLooks(int post) {
            for (int looks = 3; looks >= 0; looks--) {
                changed.copyFrom(family);
                changed.looks[post] = looks;
                if (changedCanCome()) {
                    return looks;
                }
            }
            return NONE;
        }

        private boolean changedCanCome() {
            otherRules.learn(changed, true);
            return flood.reaches(otherRules, otherRules.stateOf(walk), changed.goal());
        }
    }

    /** In how many rows of crossings stamps come about, stamp by stamp, for each state that they may lead to. */
    private static final class Ledger {
        // A state less its trail, which the stamps tell: alike in all rows.
        private static final int PLACES = 1 << Rules.TRAIL;

        private final long[] rows = new long[PLACES];
        private final int[] risks = new int[PLACES];
        private final long[] nextRows = new long[PLACES];
        private final int[] nextRisks = new int[PLACES];
        private int trail;

        void open() {
            Arrays.fill(rows, 0);
            rows[0] = 1;
            risks[0] = 0;
            trail = Rules.NO_TRAIL;
        }

        /** One stamp more, made by one of those in a set. */
        void enter(Family family, Rules rules, int stamp, int only) {
            Arrays.fill(nextRows, 0);
            int side = stamp % 10;
            for (int place = 0; place < PLACES; place++) {
                if (rows[place] != 0) {
                    int n = rules.list(place | side * Rules.SIDE | (trail << Rules.TRAIL));
                    for (int k = 0; k < n; k++) {
                        int act = rules.acts[k];
                        boolean isIn = act != LOAF && ((only >> Family.personOf(act)) & 1) == 1;
                        if (isIn && Family.postOf(act) == stamp / 10) {
                            lead(place, rules.states[k] & (PLACES - 1) & ~Rules.SIDE, family.riskOfAct(act));
                        }
                    }
                }
            }
            System.arraycopy(nextRows, 0, rows, 0, PLACES);
            System.arraycopy(nextRisks, 0, risks, 0, PLACES);
            trail = Rules.longer(trail, side);
        }

        private void lead(int from, int to, int risk) {
            int sum = risks[from] + risk;
            nextRisks[to] = nextRows[to] == 0 ? sum : Math.min(nextRisks[to], sum);
            nextRows[to] += rows[from];
        }

        long countRows() {
            long sum = 0;
            for (int place = 0; place < PLACES; place++) {
                sum += rows[place];
            }
            return sum;
        }

        int overInAll() {
            int bits = (1 << MOST_PERSONS) - 1;
            boolean any = false;
            for (int place = 0; place < PLACES; place++) {
                if (rows[place] != 0) {
                    bits &= place;
                    any = true;
                }
            }
            return any ? bits : 0;
        }

        int overInSome() {
            int bits = 0;
            for (int place = 0; place < PLACES; place++) {
                if (rows[place] != 0) {
                    bits |= place & ((1 << MOST_PERSONS) - 1);
                }
            }
            return bits;
        }

        int leastRisk() {
            int best = NONE;
            for (int place = 0; place < PLACES; place++) {
                if (rows[place] != 0 && (best == NONE || risks[place] < best)) {
                    best = risks[place];
                }
            }
            return best;
        }
    }

    /** Rows of numbers of one, two, four or eight bytes. */
    private static final class Slots {
        private static final int COUNT = 4;

        final long[][] numbers = new long[COUNT][MOST_NUMBERS];
        final int[] width = new int[COUNT];
        final int[] size = new int[COUNT];

        Slots() {
            Arrays.fill(size, NONE);
        }

        boolean exists(int slot) {
            return slot >= 0 && slot < COUNT;
        }

        boolean hasRow(int slot) {
            return size[slot] != NONE;
        }

        void lay(int slot, int itsWidth, int n) {
            width[slot] = itsWidth;
            size[slot] = n;
            Arrays.fill(numbers[slot], 0);
        }

        static long cut(long v, int width) {
            switch (width) {
                case 0: return (byte) v;
                case 1: return (short) v;
                case 2: return (int) v;
                default: return v;
            }
        }

        /** Whether n numbers from one on are all in a row; n + i could be beyond an int. */
        boolean holds(int slot, int i, int n) {
            return i >= 0 && n >= 0 && i <= size[slot] && n <= size[slot] - i;
        }

        int countRows() {
            int rows = 0;
            for (int slot = 0; slot < COUNT; slot++) {
                if (hasRow(slot)) {
                    rows++;
                }
            }
            return rows;
        }
    }
}
