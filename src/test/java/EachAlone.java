/** Each question as the first that an object is asked: its answer is the same as behind all others. */
public final class EachAlone {
    private static final int NONE = OnePassport.NONE;

    private interface Asked {
        long of(OnePassport x);
    }

    private record Question(int promise, Asked asked) { }

    private static final Question[] ALL = {
        new Question(5, x -> x.fault(0)), new Question(5, x -> x.fault(1)), new Question(6, x -> x.person(1, 4)),
        new Question(7, x -> x.post(0, 3)), new Question(8, x -> x.risk(3, 1)), new Question(9, x -> x.after(0, 0)),
        new Question(10, x -> x.now(0)), new Question(10, x -> x.now(2)), new Question(10, x -> x.now(4)),
        new Question(11, x -> x.stamp(1)), new Question(12, x -> x.lies()), new Question(13, x -> x.why(1, NONE, 0)),
        new Question(18, x -> x.act(0)), new Question(19, x -> x.acts()), new Question(20, x -> x.may(0)),
        new Question(20, x -> x.may(2)), new Question(21, x -> x.days()), new Question(22, x -> x.plan(0)),
        new Question(22, x -> x.plan(3)), new Question(23, x -> x.surest()), new Question(24, x -> x.surely(0)),
        new Question(24, x -> x.surely(2)), new Question(25, x -> x.slowly()), new Question(26, x -> x.crossings()),
        new Question(27, x -> x.moves()), new Question(28, x -> x.chance(0)), new Question(28, x -> x.chance(1)),
        new Question(29, x -> x.states()), new Question(30, x -> x.hopeful()), new Question(31, x -> x.till(3)),
        new Question(32, x -> x.over(3)), new Question(33, x -> x.never()), new Question(34, x -> x.lost(2)),
        new Question(35, x -> x.worst()), new Question(36, x -> x.judge(0)), new Question(37, x -> x.there(0)),
        new Question(38, x -> x.takes(0)), new Question(39, x -> x.dares(0)), new Question(40, x -> x.lied(0)),
        new Question(41, x -> x.stamped(1)), new Question(42, x -> x.had(1, 1)), new Question(43, x -> x.sure(1, 0)),
        new Question(43, x -> x.sure(1, 1)), new Question(44, x -> x.dared(1)), new Question(45, x -> x.alone(0, 7)),
        new Question(46, x -> x.worth(1, 30)), new Question(47, x -> x.whom(40)), new Question(48, x -> x.blur(0)),
        new Question(49, x -> x.looks(1)), new Question(50, x -> x.drawn(11, 0)), new Question(50, x -> x.drawn(11, 1)),
        new Question(51, x -> x.luck(11, 20)), new Question(55, x -> x.count(6))};

    private static void askAll(OnePassport x) {
        for (Question question : ALL) question.asked().of(x);
    }

    private static void change(OnePassport x, int how) {
        switch (how) {
            case 0: x.stay(3, 1); break;
            case 1: x.grow(0, 3); break;
            case 2: x.guard(0, 77); break;
            case 3: x.loaf(); break;
            case 4: x.undo(); break;
            case 5: x.anew(); break;
            case 6: x.back(0); break;
            case 7: x.back(1); break;
            case 8: Tell.family(x, "family loaf 1;person like 101"); break;
            case 9: x.image(1); break;
            case 10: Tell.family(x, "family loaf 4;person like 5 nose 5;post strict 99 keen 0 looks 3;"); x.back(1); break;
            default: break;
        }
    }

    public static void main(String[] args) {
        for (int how = 0; how <= 11; how++) {
            OnePassport asked = Whole.full();
            // asked ahead of the change too: nothing that was found then may tell what is now
            askAll(asked);
            change(asked, how);
            for (int i = 0; i < ALL.length; i++) {
                OnePassport alone = Whole.full();
                change(alone, how);
                Due.promise(ALL[i].promise());
                Due.is("question " + i + " behind change " + how, ALL[i].asked().of(asked), ALL[i].asked().of(alone));
            }
        }
        Due.end();
    }
}
