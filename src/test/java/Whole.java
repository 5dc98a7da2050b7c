/** Objects with something of all in them, and all that an object tells of itself: what is refused must leave it as it was. */
final class Whole {
    static final int NONE = OnePassport.NONE;
    static final int LEAST = Integer.MIN_VALUE;
    static final int GREATEST = Integer.MAX_VALUE;

    /** Six persons, two of them children, two who stay; two posts. */
    static final String KIN = "family loaf 7;person like 80 nose 2;person like 50 nose 4;person like 90 nose 9 child;"
        + "person like 0 nose 9;person like 100 nose 0 stays;person like 10 nose 5 child stays;"
        + "post strict 50 keen 2 looks 0;post strict 100 keen 9 looks 1;";

    private static String full;
    private static String none;
    private static String forty;

    /** Calls that come on an object. */
    interface Calls {
        void on(OnePassport x);
    }

    private Whole() { }

    /** A family, a fault behind it, three acts, three rows, two images, something on the tape. */
    static OnePassport full() {
        OnePassport x = Tell.told("family loaf 2;person like 40 nose 3;post strict 90 keen 1 looks 3;");
        x.cross(0, NONE, 0);
        x.image(0);
        Tell.family(x, KIN);
        Tell.family(x, "family loaf 10;");
        x.cross(1, 2, 1);
        x.loaf();
        x.image(1);
        x.cross(0, NONE, 0);
        Tell.lay(x, 0, 131, 101, 200, 103);
        x.row(1, 0, 3);
        x.write(1, 0, 10);
        x.write(1, 1, 11);
        x.row(2, 3, 0);
        Tell.feed(x, "family loaf 5;person like 3 nose 3;");
        return x;
    }

    /** No family; rows of acts and of stamps, and something on the tape. */
    static OnePassport none() {
        OnePassport x = new OnePassport();
        Tell.lay(x, 0, 0, 200);
        x.row(1, 0, 2);
        Tell.feed(x, KIN);
        return x;
    }

    /** A family behind its forty acts. */
    static OnePassport forty() {
        OnePassport x = Tell.told(KIN);
        x.cross(0, 2, 0);
        for (int i = 1; i < 40; i++) {
            if (i % 3 == 0) x.loaf();
            else x.cross(0, NONE, 0);
        }
        while (x.count(6) < 40) x.loaf();
        return x;
    }

    static void stays(String what, Calls calls) {
        if (full == null) full = told(full());
        OnePassport x = full();
        calls.on(x);
        Due.same(what + ": all else", told(x), full);
    }

    static void staysWithoutFamily(String what, Calls calls) {
        if (none == null) none = told(none());
        OnePassport x = none();
        calls.on(x);
        Due.same(what + ": all else without a family", told(x), none);
    }

    static void staysAtForty(String what, Calls calls) {
        if (forty == null) forty = told(forty());
        OnePassport x = forty();
        calls.on(x);
        Due.same(what + ": all else behind forty acts", told(x), forty);
    }

    /** All, the tape and the images too: it is gone through to the end, and not to be used then. */
    static String told(OnePassport x) {
        StringBuilder s = new StringBuilder();
        s.append("fault ").append(x.fault(0)).append(' ').append(x.fault(1)).append(" tape ").append(x.count(8));
        s.append(butTape(x));
        s.append(" taped ").append(x.family()).append(' ').append(x.fault(0)).append(' ').append(x.fault(1));
        family(x, s);
        return s.toString();
    }

    /** All but the fault and the tape. */
    static String butTape(OnePassport x) {
        StringBuilder s = new StringBuilder();
        family(x, s);
        searched(x, s);
        slots(x, s);
        for (int k = 0; k < 3; k++) {
            s.append("\nimage ").append(k).append(": ").append(x.back(k));
            family(x, s);
        }
        return s.toString();
    }

    static void family(OnePassport x, StringBuilder s) {
        s.append("\ncounts");
        for (int what = 0; what < 8; what++) s.append(' ').append(x.count(what));
        for (int p = 0; p < x.count(0); p++) {
            s.append("\nperson");
            for (int what = 0; what < 5; what++) s.append(' ').append(x.person(p, what));
        }
        for (int q = 0; q < x.count(1); q++) {
            s.append("\npost");
            for (int what = 0; what < 4; what++) s.append(' ').append(x.post(q, what));
        }
        s.append("\nnow");
        for (int what = 0; what < 5; what++) s.append(' ').append(x.now(what));
        s.append("\nacts");
        for (int i = 0; i <= 4; i++) s.append(' ').append(x.act(i)).append(' ').append(x.stamp(i));
        s.append(" lies ").append(x.lies()).append(" can ").append(x.acts()).append(" days ").append(x.days());
    }

    static String searches(OnePassport x) {
        StringBuilder s = new StringBuilder();
        family(x, s);
        searched(x, s);
        return s.toString();
    }

    private static void searched(OnePassport x, StringBuilder s) {
        s.append("\nplan");
        for (int i = 0; i < 4; i++) s.append(' ').append(x.plan(i)).append(' ').append(x.surely(i)).append(' ').append(x.may(i));
        s.append("\nbest ").append(x.surest()).append(' ').append(x.slowly()).append(' ').append(x.crossings()).append(' ')
            .append(x.moves()).append(' ').append(x.chance(0)).append(' ').append(x.chance(1)).append(' ').append(x.states())
            .append(' ').append(x.hopeful()).append(' ').append(x.never()).append(' ').append(x.till(3)).append(' ').append(x.over(3))
            .append(' ').append(x.lost(2)).append(' ').append(x.worst()).append(' ').append(x.whom(9)).append(' ').append(x.blur(0))
            .append(' ').append(x.looks(1)).append(' ').append(x.drawn(77, 0)).append(' ').append(x.luck(77, 20));
    }

    private static void slots(OnePassport x, StringBuilder s) {
        s.append("\nslots ").append(x.count(9));
        for (int slot = 0; slot < 4; slot++) {
            s.append("\nslot ").append(x.judge(slot)).append(' ').append(x.there(slot)).append(' ').append(x.takes(slot)).append(' ')
                .append(x.dares(slot)).append(' ').append(x.lied(slot)).append(' ').append(x.stamped(slot)).append(' ')
                .append(x.had(slot, 0)).append(' ').append(x.sure(slot, 0)).append(' ').append(x.sure(slot, 1)).append(' ')
                .append(x.dared(slot));
        }
    }
}
