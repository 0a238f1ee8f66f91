import java.util.function.Supplier;

/** The boundaries of section 2 and of promises 16 to 28. */
public final class EdgesForetoldTest {
    private static final Edges e = new Edges();

    public static void main(String[] args) {
        ahead();
        asItWasWhenRobbed();
        then();
        sworn();
        robs();
        hidesHowMany();
        hidesWithin();
        hidesFewest();
        hidesSworn();
        hidesWhat();
        coverNights();
        coverFewest();
        coverLeastSet();
        coverWhat();
        lowNights();
        lowGreatest();
        lowNobody();
        spareNights();
        spareFirst();
        spareNone();
        spareWhat();
        match();
        careNights();
        careMost();
        leave();
        leaveWhat();
        lowestTerms();
        apart();
        image();
        restore();
        nothingIsChanged();
        e.end();
    }

    private static void ahead() {
        e.sentence("behind n NIGHTS (0 .. 99) how DEAR a THING is");
        RobbedOnce x = Due.townOf("10;c00,p00=3");
        e.at("0", x.ahead(1, 0), 3);
        e.inside("1", x.ahead(1, 1), 5);
        e.inside("97", x.ahead(0, 97), 96);
        e.inside("98", x.ahead(0, 98), 98);
        e.at("99", x.ahead(0, 99), 98);
        e.outside("100", x.ahead(0, 100), RobbedOnce.BAD);
        e.outside("-1", x.ahead(0, -1), RobbedOnce.BAD);
        e.outside("apprentice 2", x.ahead(2, 0), RobbedOnce.BAD);
        e.outside("apprentice -1", x.ahead(-1, 0), RobbedOnce.BAD);
        x.nights(1);
        e.at("99 from night 1", x.ahead(0, 99), 99);
    }

    private static void asItWasWhenRobbed() {
        e.sentence("(of a SWORN one: as it was when ROBBED)");
        RobbedOnce x = Due.townOf("10;p05=13,p05=8;50");
        e.inside("ahead of it", x.ahead(0, 0), 13);
        e.at("robbed in the first night", x.ahead(0, 1), 13);
        e.at("and ever since", x.ahead(0, 99), 13);
        e.at("robbed in the second night", x.ahead(1, 2), 10);
        e.at("and ever since", x.ahead(1, 99), 10);
        e.outside("robbed, but not sworn", Due.townOf("10;p05=9;50").ahead(0, 1), 0);
    }

    private static void then() {
        e.sentence("Who is SWORN behind n NIGHTS (a set). BAD.");
        RobbedOnce x = Due.townOf("10;p05=10,p05=10,p05=10,p05=10,p05=10,p05=10;50");
        e.at("0", x.then(0), 0);
        e.inside("1", x.then(1), 1);
        e.inside("5", x.then(5), 31);
        e.inside("6", x.then(6), 63);
        e.inside("98", x.then(98), 63);
        e.at("99", x.then(99), 63);
        e.outside("100", x.then(100), RobbedOnce.BAD);
        e.outside("-1", x.then(-1), RobbedOnce.BAD);
        x.nights(2);
        e.at("0, two are sworn", x.then(0), 3);
        e.at("nobody", new RobbedOnce().then(99), 0);
    }

    /** A town in which one is sworn more than 99 nights from now. */
    private static void sworn() {
        e.sentence("the first of 0 to 99 NIGHTS behind which it is; none");
        String text = "15;c33,f21,p32,f01,r13,c20;34,70";
        RobbedOnce x = Due.townOf(text);
        int early = x.then(99);
        x.nights(40);
        x.nights(40);
        x.nights(19);
        int night = 99;
        while (x.count(4) == early && night < 140) {
            x.nights(1);
            night++;
        }
        int late = Integer.numberOfTrailingZeros(x.count(4) & ~early);
        RobbedOnce y = Due.townOf(text);
        y.nights(night - 100);
        e.outside("100 nights from now", y.sworn(late), RobbedOnce.NONE);
        e.outside("not behind 99", y.then(99) >> late & 1, 0);
        y.nights(1);
        e.at("99 nights from now", y.sworn(late), 99);
        e.at("behind 99", y.then(99) >> late & 1, 1);
        y.nights(1);
        e.inside("98 nights from now", y.sworn(late), 98);
        RobbedOnce z = Due.townOf("10;p05=10,p06=10;50");
        e.inside("1", z.sworn(0), 1);
        z.nights(1);
        e.at("0", z.sworn(0), 0);
        e.outside("never", z.sworn(1), RobbedOnce.NONE);
        e.outside("apprentice 2", z.sworn(2), RobbedOnce.BAD);
        e.outside("apprentice -1", z.sworn(-1), RobbedOnce.BAD);
    }

    private static void robs() {
        e.sentence("ROBS: whom a THIEF ROBS in this NIGHT; none.");
        RobbedOnce x = Due.townOf("10;p05=3,p05=4,p05=5,p05=6,p05=7,p05=8;50,54,53,40");
        e.at("the first thief robs the last", x.robs(0), 5);
        e.inside("the second", x.robs(1), 4);
        e.outside("one who wants another sort", x.robs(2), RobbedOnce.NONE);
        e.outside("one who has less skill", x.robs(3), RobbedOnce.NONE);
        e.outside("thief 4", x.robs(4), RobbedOnce.BAD);
        e.outside("thief -1", x.robs(-1), RobbedOnce.BAD);
        RobbedOnce y = Due.townOf("10;p05=3;50,50");
        e.at("the only one", y.robs(0), 0);
        e.outside("it is robbed already", y.robs(1), RobbedOnce.NONE);
        e.outside("no thief", Due.townOf("10;p05").robs(0), RobbedOnce.BAD);
    }

    private static void hidesHowMany() {
        e.sentence("how many NIGHTS (0 .. 20) it should HIDE its THING from now on, then SHOW it");
        int[] bars = {0, 1, 2, 38, 39, 40, 41, 42};
        int[] many = {0, 1, 1, 19, 20, 20, RobbedOnce.NONE, RobbedOnce.NONE};
        for (int i = 0; i < bars.length; i++) {
            RobbedOnce x = Due.townOf(bars[i] + ";p05;50");
            int behind = many[i] < 0 ? RobbedOnce.NONE : many[i] + 1;
            if (many[i] == 0 || many[i] == 20) {
                e.at("a bar of " + bars[i], x.hides(0, 0), many[i]);
                e.at("behind, a bar of " + bars[i], x.hides(0, 1), behind);
            } else if (many[i] > 0) {
                e.inside("a bar of " + bars[i], x.hides(0, 0), many[i]);
                e.inside("behind, a bar of " + bars[i], x.hides(0, 1), behind);
            } else {
                e.outside("a bar of " + bars[i], x.hides(0, 0), many[i]);
                e.outside("behind, a bar of " + bars[i], x.hides(0, 1), behind);
            }
        }
        e.at("who hides it shows it", Due.townOf("5;p05=5x;50").hides(0, 1), 1);
    }

    private static void hidesWithin() {
        e.sentence("(within 99 NIGHTS from now)");
        Supplier<RobbedOnce> inside = () -> shownInNightOne("22;c07=1x,d19=9x,p30=7x,d09=3x,c34=9x,d16=15x;32,30,51,94");
        e.inside("98 by play", soonestByPlay(inside), 98);
        e.inside("98: how many", inside.get().hides(0, 0), 15);
        e.inside("98: behind", inside.get().hides(0, 1), 98);
        Supplier<RobbedOnce> at = () -> Due.townOf("22;c24=1,d07=10,d18=3,p30=14,c33=16,d17=19;11,33,42,94");
        e.at("99 by play", soonestByPlay(at), 99);
        e.at("99: how many", at.get().hides(0, 0), 7);
        e.at("99: behind", at.get().hides(0, 1), 99);
        Supplier<RobbedOnce> outside = () -> shownInNightOne("22;c34=0x,d09=2x,d28=10x,p30=10x,c23=4x,d38=11x;33,01,42,94");
        e.outside("100 by play", soonestByPlay(outside), 100);
        e.outside("100: how many", outside.get().hides(0, 0), RobbedOnce.NONE);
        e.outside("100: behind", outside.get().hides(0, 1), RobbedOnce.NONE);
    }

    /** Six who hide their things in night 0 and show them from night 1 on. */
    private static RobbedOnce shownInNightOne(String text) {
        RobbedOnce x = Due.townOf(text);
        x.nights(1);
        for (int a = 0; a < 6; a++) {
            x.show(a, 1);
        }
        return x;
    }

    /** Behind how many nights (120 at most) apprentice 0 is sworn soonest, if it hides its thing 0 .. 20 nights. */
    private static int soonestByPlay(Supplier<RobbedOnce> town) {
        int soonest = 121;
        for (int hidden = 0; hidden <= 20; hidden++) {
            RobbedOnce x = town.get();
            if (hidden > 0) {
                x.show(0, 0);
                x.nights(hidden);
                x.show(0, 1);
            }
            int passed = hidden;
            while (x.of(0, 5) == 0 && passed < 120) {
                x.nights(1);
                passed++;
            }
            soonest = x.of(0, 5) == 1 ? Math.min(soonest, passed) : soonest;
        }
        return soonest;
    }

    private static void hidesFewest() {
        e.sentence("so that it is SWORN soonest (within 99 NIGHTS from now), of like ones the fewest: how many");
        // The thief is busy with the second one in night 0: to hide it 0 or 1 nights is alike.
        RobbedOnce zero = Due.townOf("10;p05=12,p05=30;50");
        e.at("0 and 1 are alike", zero.hides(0, 0), 0);
        e.at("behind", zero.hides(0, 1), 2);
        // In night 0 it would be robbed too soon; in night 1 the thief is busy: to hide it 1 or 2 nights is alike.
        RobbedOnce one = Due.townOf("10;p05=9,p05=9,d05=8;50");
        e.at("1 and 2 are alike", one.hides(0, 0), 1);
        e.at("behind", one.hides(0, 1), 3);
        // Nobody is dearer in night 1: 1 is sooner than 2.
        RobbedOnce sooner = Due.townOf("10;p05=9,p05=9;50");
        e.inside("1 is sooner", sooner.hides(0, 0), 1);
        e.inside("behind", sooner.hides(0, 1), 2);
        // To hide it more is sooner than to hide it less: robbed at once it has to come round through four sorts.
        RobbedOnce more = Due.townOf("2;p05=1;54");
        e.inside("1 more night is sooner", more.hides(0, 0), 1);
        e.inside("behind", more.hides(0, 1), 2);
        e.outside("no way", Due.townOf("10;p05=9;40").hides(0, 0), RobbedOnce.NONE);
    }

    private static void hidesSworn() {
        e.sentence("none (it is SWORN: 0, 0)");
        RobbedOnce x = Due.townOf("10;p05=10,p05=9x;50");
        e.inside("sworn a night later: how many", x.hides(0, 0), 0);
        e.inside("behind", x.hides(0, 1), 1);
        x.nights(1);
        e.at("sworn: how many", x.hides(0, 0), 0);
        e.at("behind", x.hides(0, 1), 0);
        x.teach(1, 6);
        e.outside("none: how many", x.hides(1, 0), RobbedOnce.NONE);
        e.outside("behind", x.hides(1, 1), RobbedOnce.NONE);
    }

    private static void hidesWhat() {
        e.sentence("HIDE: how many (what 0), behind how many NIGHTS (1); NONE. BAD.");
        RobbedOnce x = Due.townOf("10;p05;50");
        e.at("what 0", x.hides(0, 0), 5);
        e.inside("what 1", x.hides(0, 1), 6);
        e.outside("what 2", x.hides(0, 2), RobbedOnce.BAD);
        e.outside("what -1", x.hides(0, -1), RobbedOnce.BAD);
        e.outside("apprentice 1", x.hides(1, 0), RobbedOnce.BAD);
        e.outside("apprentice -1", x.hides(-1, 0), RobbedOnce.BAD);
    }

    private static void coverNights() {
        e.sentence("COVER for one, n NIGHTS (1 .. 40)");
        RobbedOnce x = Due.townOf("10;p05=12,p05=30,p05=31;50");
        e.outside("0", x.cover(0, 0, 0), RobbedOnce.BAD);
        e.outside("-1", x.cover(0, -1, 0), RobbedOnce.BAD);
        e.at("1", x.cover(0, 1, 0), 2);
        e.inside("2", x.cover(0, 2, 0), 1);
        e.inside("3", x.cover(0, 3, 0), 0);
        e.at("40", x.cover(0, 40, 0), 0);
        e.outside("41", x.cover(0, 41, 0), RobbedOnce.BAD);
        RobbedOnce late = Due.townOf("21;d04=4,f31=19,p14=13,f15=6,c36=8;74");
        e.inside("sworn behind 40, not behind 39", late.cover(0, 39, 0), RobbedOnce.NONE);
        e.at("sworn behind 40", late.cover(0, 40, 0), 0);
        e.outside("it is", late.nights(39) & 1, 0);
        e.at("it is", late.nights(1) & 1, 1);
    }

    private static void coverFewest() {
        e.sentence("the fewest others (who SHOW theirs) that should HIDE it from now on");
        RobbedOnce x = Due.townOf("10;p05=12,p05=11,p05=12,p05=13,p05=14x;50");
        e.at("of like ones it is the first, but one is dearer", x.cover(0, 1, 1), 8);
        e.inside("for the dearest nobody", x.cover(3, 1, 0), 0);
        e.inside("for the dearest nobody", x.cover(3, 1, 1), 0);
        e.at("for the second of like ones the first, too", x.cover(2, 1, 1), 1 | 8);
        e.at("all of the others", x.cover(1, 1, 1), 1 | 4 | 8);
        e.outside("one who hides it could be sworn by nobody's hiding", x.cover(4, 40, 0), RobbedOnce.NONE);
        RobbedOnce six = Due.townOf("10;p05=20,p05=20,p05=20,p05=20,p05=20,p05=10;50");
        e.at("five others", six.cover(5, 1, 0), 5);
        e.at("which", six.cover(5, 1, 1), 31);
        six.nights(5);
        e.inside("five are sworn", six.cover(5, 1, 0), 0);
        e.outside("five and it are hidden", Due.townOf("10;p05x,p05x,p05x,p05x,p05x,p05x;50").cover(5, 1, 1), RobbedOnce.NONE);
    }

    private static void coverLeastSet() {
        e.sentence("so that it is SWORN behind them, of like ones the least set: how many; which; none");
        RobbedOnce x = Due.townOf("10;p05=12,p05=30,p05=31,p05=32;50");
        e.at("one of three", x.cover(0, 3, 1), 2);
        e.at("two of three", x.cover(0, 2, 1), 2 | 4);
        e.inside("all of three", x.cover(0, 1, 1), 2 | 4 | 8);
        // To hide 0 and 1 is a lesser set than to hide 3, but that is fewer.
        e.inside("fewer, though a greater set", Due.townOf("3;c31,r31,d30=15,f10,f00;93,14").cover(4, 2, 1), 8);
        RobbedOnce y = Due.townOf("10;p05=9;50");
        e.outside("not behind them: how many", y.cover(0, 1, 0), RobbedOnce.NONE);
        e.outside("not behind them: which", y.cover(0, 1, 1), RobbedOnce.NONE);
    }

    private static void coverWhat() {
        e.sentence("COVER: how many (what 0), which (1); NONE. BAD.");
        RobbedOnce x = Due.townOf("10;p05=12,p05=30;50");
        e.at("what 0", x.cover(0, 1, 0), 1);
        e.inside("what 1", x.cover(0, 1, 1), 2);
        e.outside("what 2", x.cover(0, 1, 2), RobbedOnce.BAD);
        e.outside("what -1", x.cover(0, 1, -1), RobbedOnce.BAD);
        e.outside("apprentice 2", x.cover(2, 1, 0), RobbedOnce.BAD);
        e.outside("apprentice -1", x.cover(-1, 1, 0), RobbedOnce.BAD);
    }

    private static void lowNights() {
        e.sentence("LOW for n NIGHTS (1 .. 40)");
        RobbedOnce x = Due.townOf("50;p05=7,p15=9;54");
        e.outside("0", x.low(0), RobbedOnce.BAD);
        e.outside("-1", x.low(-1), RobbedOnce.BAD);
        e.at("1 is too few for two", x.low(1), RobbedOnce.NONE);
        e.inside("2", x.low(2), 9);
        e.inside("39", x.low(39), 9);
        e.at("40", x.low(40), 9);
        e.outside("41", x.low(41), RobbedOnce.BAD);
        e.at("1 for one", Due.townOf("50;p05=7;54").low(1), 7);
    }

    private static void lowGreatest() {
        e.sentence("the greatest BAR (0 .. 99) from now on by which all are SWORN behind them; none");
        e.at("99", Due.townOf("50;p05=99;54").low(1), 99);
        e.inside("98", Due.townOf("50;p05=98;54").low(1), 98);
        e.inside("1", Due.townOf("50;p05=1;54").low(1), 1);
        e.at("0", Due.townOf("50;p05;54").low(1), 0);
        e.outside("hidden", Due.townOf("50;p05=99x;54").low(40), RobbedOnce.NONE);
        e.outside("one of two is hidden", Due.townOf("50;p05=99,p05=99x;54").low(40), RobbedOnce.NONE);
        RobbedOnce x = Due.townOf("5;p05=9,p05=9;54");
        x.nights(1);
        e.inside("one is sworn already, by less", x.low(1), 11);
        x.nights(1);
        e.at("all are sworn already", x.low(1), 99);
    }

    private static void lowNobody() {
        e.sentence("LOW; NONE (nobody: 99). BAD.");
        RobbedOnce x = new RobbedOnce();
        e.at("nobody", x.low(1), 99);
        e.at("nobody", x.low(40), 99);
        x.thief(9, 4);
        e.at("nobody but a thief", x.low(1), 99);
        e.outside("nobody, 0 nights", x.low(0), RobbedOnce.BAD);
        e.outside("nobody, 41 nights", x.low(41), RobbedOnce.BAD);
        x.apprentice(0, 0, 0);
        e.inside("one", x.low(1), 0);
    }

    private static void spareNights() {
        e.sentence("SPARE for n NIGHTS (1 .. 40)");
        RobbedOnce x = Due.townOf("21;p15,d25,d23=10,c12;32,64,82");
        e.outside("0", x.spare(0, 0), RobbedOnce.BAD);
        e.outside("-1", x.spare(-1, 0), RobbedOnce.BAD);
        e.at("1", x.spare(1, 0), 0);
        e.inside("39: the thief", x.spare(39, 0), 0);
        e.inside("39: how many", x.spare(39, 1), 0);
        e.at("40: the thief", x.spare(40, 0), 2);
        e.at("40: how many", x.spare(40, 1), 1);
        e.at("40 by play", Integer.bitCount(Due.townOf("21;p15,d25,d23=10,c12;32,64").nights(40)), 1);
        e.inside("39 by play", Integer.bitCount(Due.townOf("21;p15,d25,d23=10,c12;32,64").nights(39)), 0);
        e.outside("41", x.spare(41, 0), RobbedOnce.BAD);
        RobbedOnce y = Due.townOf("5;p05=8,p05=8;50,54");
        e.at("1: how many", y.spare(1, 1), 1);
        e.inside("2: how many", y.spare(2, 1), 2);
    }

    private static void spareFirst() {
        e.sentence("the THIEF without whom most are SWORN behind them, of like ones the first; how many");
        // Who wants sort 0 robs one of too little; who wants sort 1 robs one of enough.
        RobbedOnce x = Due.townOf("5;p05=4,p15=9;50,51");
        e.inside("the first, by one more", x.spare(1, 0), 0);
        e.inside("how many", x.spare(1, 1), 1);
        RobbedOnce y = Due.townOf("5;p05=4,p15=9;51,50");
        e.inside("the second, by one more", y.spare(1, 0), 1);
        e.inside("how many", y.spare(1, 1), 1);
        RobbedOnce z = Due.townOf("5;p05=8,p15=9;50,51");
        e.at("alike", z.spare(1, 0), 0);
        e.at("how many", z.spare(1, 1), 1);
        RobbedOnce w = Due.townOf("5;p05=8,p15=9,p25=9,p35=9;50,51,52,53");
        e.at("four alike", w.spare(1, 0), 0);
        e.at("how many", w.spare(1, 1), 3);
        w.nights(1);
        e.at("all are sworn", w.spare(1, 1), 4);
        RobbedOnce v = Due.townOf("5;p05=4,p15=9,p25=9,p35=9;51,52,53,50");
        e.inside("the last", v.spare(1, 0), 3);
        e.inside("how many", v.spare(1, 1), 3);
        e.outside("no more by 40 nights", v.spare(40, 1), 3);
    }

    private static void spareNone() {
        e.sentence("none: there are none");
        RobbedOnce x = Due.townOf("5;p05=8");
        e.outside("no thieves: the thief", x.spare(1, 0), RobbedOnce.NONE);
        e.outside("no thieves: how many", x.spare(40, 1), RobbedOnce.NONE);
        x.thief(9, 4);
        e.at("one: the thief", x.spare(1, 0), 0);
        e.at("one: how many", x.spare(1, 1), 0);
        x.thief(9, 4);
        e.inside("two: the thief", x.spare(1, 0), 0);
        e.inside("two: how many", x.spare(1, 1), 1);
        RobbedOnce y = new RobbedOnce();
        y.thief(0, 0);
        e.at("one, nobody to rob: the thief", y.spare(1, 0), 0);
        e.at("one, nobody to rob: how many", y.spare(1, 1), 0);
    }

    private static void spareWhat() {
        e.sentence("SPARE: the THIEF (what 0), how many (1); NONE. BAD.");
        RobbedOnce x = Due.townOf("5;p05=4,p15=9;51,50");
        e.at("what 0", x.spare(1, 0), 1);
        e.inside("what 1", x.spare(40, 1), 1);
        e.outside("what 2", x.spare(1, 2), RobbedOnce.BAD);
        e.outside("what -1", x.spare(1, -1), RobbedOnce.BAD);
    }

    private static void match() {
        e.sentence("how many could be ROBBED in one NIGHT at most, each THIEF ROBBING one at most that it MAY, in any way");
        e.at("nobody at all", new RobbedOnce().match(), 0);
        e.at("no thief", Due.townOf("5;p05").match(), 0);
        e.outside("more careful by one", Due.townOf("5;p06;54").match(), 0);
        e.at("as careful", Due.townOf("5;p05;54").match(), 1);
        e.outside("hidden", Due.townOf("5;p05x;54").match(), 0);
        e.at("four of six", Due.townOf("5;p05,p05,p05,p05,p05,p05;54,54,54,54").match(), 4);
        e.inside("three of three", Due.townOf("5;p05,p05,p05;54,54,54,54").match(), 3);
        e.at("one by four", Due.townOf("5;p05;54,54,54,54").match(), 1);
        // As the night goes the first thief would rob the one that the second wants.
        RobbedOnce x = Due.townOf("5;p05=9,p15;54,50");
        e.inside("in any way", x.match(), 2);
        e.outside("not as the night goes", x.robs(1), RobbedOnce.NONE);
        e.inside("two want the same two", Due.townOf("5;p05,p15,p25;50,51,50,51").match(), 2);
        e.outside("a sworn one", swornOne().match(), 0);
    }

    private static RobbedOnce swornOne() {
        RobbedOnce x = Due.townOf("5;p05=9;54");
        x.nights(1);
        return x;
    }

    private static void careNights() {
        e.sentence("CARE for one, n NIGHTS (1 .. 40)");
        RobbedOnce x = Due.townOf("12;d35,p01,d21=18,p11=4,r10;81,34");
        e.outside("0", x.care(0, 0), RobbedOnce.BAD);
        e.outside("-1", x.care(0, -1), RobbedOnce.BAD);
        e.at("1", x.care(0, 1), RobbedOnce.NONE);
        e.inside("39", x.care(0, 39), RobbedOnce.NONE);
        e.at("40", x.care(0, 40), 3);
        e.at("40 by play", Due.townOf("12;d33,p01,d21=18,p11=4,r10;81,34").nights(40) & 1, 1);
        e.inside("39 by play", Due.townOf("12;d33,p01,d21=18,p11=4,r10;81,34").nights(39) & 1, 0);
        e.outside("41", x.care(0, 41), RobbedOnce.BAD);
        e.outside("apprentice 5", x.care(5, 1), RobbedOnce.BAD);
        e.outside("apprentice -1", x.care(-1, 1), RobbedOnce.BAD);
        RobbedOnce y = Due.townOf("10;p05=10,p05=10;50");
        e.at("1, the first", y.care(0, 1), 5);
        e.outside("1, the second", y.care(1, 1), RobbedOnce.NONE);
        e.inside("2, the second", y.care(1, 2), 5);
    }

    private static void careMost() {
        e.sentence("the most it could be CAREFUL by (0 .. 9) from now on, and be SWORN behind them; none");
        e.at("9", Due.townOf("5;p00=5;94").care(0, 1), 9);
        e.inside("8", Due.townOf("5;p00=5;84").care(0, 1), 8);
        e.inside("1", Due.townOf("5;p09=5;14").care(0, 1), 1);
        e.at("0", Due.townOf("5;p09=5;04").care(0, 1), 0);
        e.outside("none", Due.townOf("5;p00=4;94").care(0, 1), RobbedOnce.NONE);
        e.outside("no thief", Due.townOf("5;p00=5").care(0, 40), RobbedOnce.NONE);
        e.at("it is sworn", swornOne().care(0, 1), 9);
    }

    private static void leave() {
        e.sentence("LEAVE by c of 10 (0 .. 10)");
        RobbedOnce x = Due.townOf("5;p05;54");
        e.at("0: above", x.leave(0, 0, 0), 1);
        e.at("0: below", x.leave(0, 0, 1), 1);
        e.inside("1: above", x.leave(0, 1, 0), 9);
        e.inside("1: below", x.leave(0, 1, 1), 10);
        e.inside("9: above", x.leave(0, 9, 0), 1);
        e.inside("9: below", x.leave(0, 9, 1), 10);
        e.at("10: above", x.leave(0, 10, 0), 0);
        e.at("10: below", x.leave(0, 10, 1), 1);
        e.outside("11", x.leave(0, 11, 0), RobbedOnce.BAD);
        e.outside("-1", x.leave(0, -1, 0), RobbedOnce.BAD);
        e.outside("apprentice 1", x.leave(1, 0, 0), RobbedOnce.BAD);
        e.outside("apprentice -1", x.leave(-1, 0, 0), RobbedOnce.BAD);
    }

    private static void leaveWhat() {
        e.sentence("LEAVE: above (what 0), below (1). BAD.");
        RobbedOnce x = Due.townOf("5;p05;54");
        e.at("what 0", x.leave(0, 3, 0), 7);
        e.inside("what 1", x.leave(0, 3, 1), 10);
        e.outside("what 2", x.leave(0, 3, 2), RobbedOnce.BAD);
        e.outside("what -1", x.leave(0, 3, -1), RobbedOnce.BAD);
    }

    private static void lowestTerms() {
        e.sentence("how likely a told one is ROBBED in it: a fraction in lowest terms");
        String four = "5;p05;54,54,54,54";
        int[][] odds = {{0, 1, 1}, {1, 9999, 10000}, {2, 624, 625}, {4, 609, 625}, {5, 15, 16}, {8, 369, 625}, {9, 3439, 10000}, {10, 0, 1}};
        for (int[] o : odds) {
            RobbedOnce x = Due.townOf(four);
            if (o[0] == 0 || o[0] == 10) {
                e.at("by " + o[0] + ": above", x.leave(0, o[0], 0), o[1]);
                e.at("by " + o[0] + ": below", x.leave(0, o[0], 1), o[2]);
            } else {
                e.inside("by " + o[0] + ": above", x.leave(0, o[0], 0), o[1]);
                e.inside("by " + o[0] + ": below", x.leave(0, o[0], 1), o[2]);
            }
        }
        String[] never = {"5;p05", "5;p05x;54", "5;p06;54", "5;p15;50"};
        for (String text : never) {
            e.outside(text + ": above", Due.townOf(text).leave(0, 5, 0), 0);
            e.outside(text + ": below", Due.townOf(text).leave(0, 5, 1), 1);
        }
        e.outside("a sworn one: above", swornOne().leave(0, 0, 0), 0);
        e.outside("a sworn one: below", swornOne().leave(0, 0, 1), 1);
    }

    private static void apart() {
        e.sentence("each THIEF stays at home in this NIGHT by c of 10, apart");
        // The second of like ones is robbed only if two of three come.
        RobbedOnce x = Due.townOf("5;p05=9,p05=9,p05=9;50,50,50");
        e.inside("the first: above", x.leave(0, 5, 0), 7);
        e.inside("the first: below", x.leave(0, 5, 1), 8);
        e.at("the second: above", x.leave(1, 5, 0), 1);
        e.at("the second: below", x.leave(1, 5, 1), 2);
        e.inside("the third: above", x.leave(2, 5, 0), 1);
        e.inside("the third: below", x.leave(2, 5, 1), 8);
        e.outside("none stays at home", x.leave(2, 0, 0), 1);
        e.outside("all stay at home", x.leave(0, 10, 0), 0);
    }

    private static void image() {
        e.sentence("All but SHEETS, THE TAPE is kept as an IMAGE: 1.");
        RobbedOnce x = Due.townOf("10;p05=12,f15x;54");
        x.seed(9);
        x.nights(1);
        x.sheet(0, 0, 4);
        x.type('9');
        e.at("kept", x.image(), 1);
        x.drop(0);
        x.type(';');
        x.bar(11);
        x.drift(3);
        Due.readInto(x, "p00");
        x.type('~');
        e.inside("restored", x.restore(), 1);
        int[] counts = {2, 1, 1, 10, 1, 1, 4, 1};
        for (int what = 0; what < counts.length; what++) {
            e.inside("count " + what, x.count(what), counts[what]);
        }
        e.inside("what may be undone", x.undo(), 0);
        e.inside("the draw", x.seed(1), 9);
        e.outside("sheets are as they were", x.drop(0), RobbedOnce.NULL);
        e.outside("the tape is as it was", x.type('~'), 2);
        e.at("a new one in place of it", x.image(), 1);
        x.nights(5);
        x.restore();
        e.at("is of night 0", x.count(2), 0);
    }

    private static void restore() {
        e.sentence("All is as it was then: 1. NONE: there is none.");
        RobbedOnce x = new RobbedOnce();
        e.outside("there is none", x.restore(), RobbedOnce.NONE);
        x.image();
        e.at("at once", x.restore(), 1);
        x.apprentice(0, 0, 0);
        e.inside("again", x.restore(), 1);
        e.inside("nobody", x.count(0), 0);
        for (int a = 0; a < 6; a++) {
            x.apprentice(0, 0, 0);
        }
        for (int t = 0; t < 4; t++) {
            x.thief(9, 4);
        }
        x.nights(40);
        x.image();
        x.restore();
        e.at("eight may be undone", x.undo(), 7);
        x.undo();
        x.restore();
        e.at("eight again", x.count(7), 8);
        e.at("six", x.count(0), 6);
        e.at("four", x.count(1), 4);
        x.nights(40);
        x.restore();
        for (int left = 7; left >= 0; left--) {
            e.at("each of eight is as it was, whatever was done since", x.undo(), left);
            e.at("its night", x.count(2), 32 + left);
        }
        e.outside("a ninth", x.undo(), RobbedOnce.NONE);
    }

    private static void nothingIsChanged() {
        e.sentence("FORETOLD from now (nothing is changed)");
        Supplier<RobbedOnce> town = () -> Due.townOf("22;c24=1,d07=10,d18=3,p30=14,c33=16x;11,33,42,94");
        long want = Trace.of(town.get());
        for (int call = 0; call < 12; call++) {
            RobbedOnce x = town.get();
            foretell(x, call);
            e.at("foretold " + call, Trace.of(x), want);
        }
        RobbedOnce x = town.get();
        e.inside("foretold", x.then(40), town.get().nights(40));
        x.nights(1);
        e.outside("a night changes it", Trace.of(x) == want ? 1 : 0, 0);
    }

    private static void foretell(RobbedOnce x, int call) {
        switch (call) {
            case 0 -> x.ahead(0, 99);
            case 1 -> x.then(99);
            case 2 -> x.sworn(0);
            case 3 -> x.robs(3);
            case 4 -> x.hides(0, 0);
            case 5 -> x.cover(0, 40, 1);
            case 6 -> x.low(40);
            case 7 -> x.spare(40, 1);
            case 8 -> x.match();
            case 9 -> x.care(0, 40);
            case 10 -> x.leave(0, 5, 0);
            default -> x.hides(4, 1);
        }
    }
}
