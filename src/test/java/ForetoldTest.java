/** Promises 16 to 28: ahead, then, sworn, robs, hides, cover, low, spare, match, care, leave, image, restore. */
public final class ForetoldTest {
    private static final Due d = new Due();

    public static void main(String[] args) {
        ahead();
        then();
        sworn();
        swornLate();
        robs();
        hides();
        cover();
        low();
        spare();
        match();
        care();
        leave();
        image();
        nothingIsChanged();
        d.end();
    }

    private static void ahead() {
        RobbedOnce x = Due.townOf("10;p05,c05=3,f06=20;51,62");
        int[] nights = {0, 1, 2, 49, 50, 99};
        int[] plain = {0, 2, 4, 98, 99, 99};
        int[] careless = {3, 3, 5, 51, 53, 99};
        for (int i = 0; i < nights.length; i++) {
            d.due("16: plain behind " + nights[i], x.ahead(0, nights[i]), plain[i]);
            d.due("16: careless behind " + nights[i], x.ahead(1, nights[i]), careless[i]);
        }
        RobbedOnce y = Due.townOf("10;p25=13;52");
        d.due("16: a sworn one as it was when robbed", y.ahead(0, 1), 13);
        d.due("16: a sworn one as it was when robbed", y.ahead(0, 99), 13);
        int[][] bad = {{3, 0}, {-1, 0}, {0, -1}, {0, 100}};
        for (int[] b : bad) {
            d.due("16: bad", x.ahead(b[0], b[1]), RobbedOnce.BAD);
        }
    }

    private static void then() {
        RobbedOnce x = Due.townOf("10;p05=30,p05=20,p05=4,p05=9x;50");
        int[] sets = {0, 1, 3, 3, 3};
        for (int n = 0; n < sets.length; n++) {
            d.due("17: behind " + n, x.then(n), sets[n]);
        }
        d.due("17: behind 99", x.then(99), 3);
        d.due("17: below", x.then(-1), RobbedOnce.BAD);
        d.due("17: above", x.then(100), RobbedOnce.BAD);
        d.due("17: nobody", new RobbedOnce().then(40), 0);
    }

    private static void sworn() {
        RobbedOnce x = Due.townOf("10;p05=30,p05=20,p05=4;50");
        d.due("18: first", x.sworn(0), 1);
        d.due("18: second", x.sworn(1), 2);
        d.due("18: none", x.sworn(2), RobbedOnce.NONE);
        x.nights(1);
        d.due("18: it is", x.sworn(0), 0);
        d.due("18: a night nearer", x.sworn(1), 1);
        d.due("18: nobody", x.sworn(3), RobbedOnce.BAD);
        d.due("18: nobody", x.sworn(-1), RobbedOnce.BAD);
    }

    /** A town in which one is sworn more than 99 nights from now. */
    private static void swornLate() {
        RobbedOnce x = Due.townOf("15;c33,f21,p32,f01,r13,c20;34,70");
        x.nights(40);
        x.nights(40);
        x.nights(19);
        int before = x.count(4);
        int night = 99;
        int more = 0;
        for (int i = 0; i < 41 && more == 0; i++) {
            more = x.nights(1) & ~before;
            night++;
        }
        int late = Integer.numberOfTrailingZeros(more);
        RobbedOnce y = Due.townOf("15;c33,f21,p32,f01,r13,c20;34,70");
        d.due("18: beyond 99 nights", y.sworn(late), RobbedOnce.NONE);
        for (int i = 0; i < night - 100; i++) {
            y.nights(1);
        }
        d.due("18: a hundred nights from now", y.sworn(late), RobbedOnce.NONE);
        y.nights(1);
        d.due("18: behind 99 nights", y.sworn(late), 99);
        d.due("17: behind 99 nights", y.then(99) >> late & 1, 1);
        d.due("17: behind 98 nights", y.then(98) >> late & 1, 0);
    }

    private static void robs() {
        RobbedOnce x = Due.townOf("10;p05=3,p15=8,p25=8,p35=9x;50,54,54,94");
        int[] whom = {0, 1, 2, RobbedOnce.NONE};
        for (int t = 0; t < 4; t++) {
            d.due("19: thief " + t, x.robs(t), whom[t]);
        }
        x.show(3, 1);
        int[] shown = {0, 3, 1, 2};
        for (int t = 0; t < 4; t++) {
            d.due("19: thief " + t + ", all shown", x.robs(t), shown[t]);
        }
        d.due("19: nobody", x.robs(4), RobbedOnce.BAD);
        d.due("19: nobody", x.robs(-1), RobbedOnce.BAD);
    }

    private static void hides() {
        hide("10;p05;50", 5, 6);
        hide("40;p05;50", 20, 21);
        hide("41;p05;50", RobbedOnce.NONE, RobbedOnce.NONE);
        hide("10;p05=10;50", 0, 1);
        hide("10;p05=10x;50", 0, 1);
        hide("10;p05=12,p05=30;50", 0, 2);
        hide("10;p06;50", RobbedOnce.NONE, RobbedOnce.NONE);
        hide("14;d05;50", 4, 5);
        hide("10;c05=9;50", 2, 3);
        hide("4;f05;50", 1, 2);
        RobbedOnce x = Due.townOf("10;p05=10;50");
        x.nights(1);
        d.due("20: it is sworn", x.hides(0, 0), 0);
        d.due("20: it is sworn", x.hides(0, 1), 0);
        int[][] bad = {{1, 0}, {-1, 0}, {0, 2}, {0, -1}};
        for (int[] b : bad) {
            d.due("20: bad", x.hides(b[0], b[1]), RobbedOnce.BAD);
        }
    }

    private static void hide(String text, int howMany, int behind) {
        RobbedOnce x = Due.townOf(text);
        d.due("20: " + text, x.hides(0, 0), howMany);
        d.due("20: behind, " + text, x.hides(0, 1), behind);
    }

    private static void cover() {
        RobbedOnce x = Due.townOf("10;p05=12,p05=30,p05=31,p05=50x,p15=40;50");
        int[][] asked = {{0, 1, 2, 6}, {0, 2, 1, 2}, {0, 3, 0, 0}, {1, 1, 1, 4}, {2, 1, 0, 0}, {0, 40, 0, 0}};
        for (int[] c : asked) {
            d.due("21: how many for " + c[0] + " in " + c[1], x.cover(c[0], c[1], 0), c[2]);
            d.due("21: which for " + c[0] + " in " + c[1], x.cover(c[0], c[1], 1), c[3]);
        }
        d.due("21: hidden itself", x.cover(3, 40, 0), RobbedOnce.NONE);
        d.due("21: hidden itself", x.cover(3, 40, 1), RobbedOnce.NONE);
        d.due("21: wanted by none", x.cover(4, 40, 1), RobbedOnce.NONE);
        x.nights(1);
        d.due("21: it is sworn", x.cover(2, 1, 0), 0);
        d.due("21: it is sworn", x.cover(2, 1, 1), 0);
        d.due("21: a sworn one has no need to hide", x.cover(0, 1, 1), 2);
        // To hide 0 and 1 is a lesser set than to hide 3, but that is fewer.
        RobbedOnce y = Due.townOf("3;c31,r31,d30=15,f10,f00;93,14");
        d.due("21: the fewest", y.cover(4, 2, 0), 1);
        d.due("21: the fewest", y.cover(4, 2, 1), 8);
        int[][] bad = {{5, 1, 0}, {-1, 1, 0}, {0, 0, 0}, {0, 41, 0}, {0, 1, 2}, {0, 1, -1}};
        for (int[] b : bad) {
            d.due("21: bad", x.cover(b[0], b[1], b[2]), RobbedOnce.BAD);
        }
    }

    private static void low() {
        RobbedOnce x = Due.townOf("50;p05=7,p15=9;54,54");
        d.due("22: one night", x.low(1), 7);
        d.due("22: more nights", x.low(40), 7);
        x.bar(5);
        d.due("22: whatever the bar is", x.low(1), 7);
        d.due("22: it stays", x.count(3), 5);
        x.nights(1);
        d.due("22: all are sworn", x.low(1), 99);
        d.due("22: the most", Due.townOf("50;p05=99;54").low(1), 99);
        d.due("22: the least", Due.townOf("50;p05;54").low(1), 0);
        d.due("22: none", Due.townOf("50;p05=7,p15=9;54").low(1), RobbedOnce.NONE);
        d.due("22: two nights for two", Due.townOf("50;p05=7,p15=9;54").low(2), 9);
        d.due("22: no thief", Due.townOf("50;p05=7").low(40), RobbedOnce.NONE);
        d.due("22: nobody", new RobbedOnce().low(40), 99);
        d.due("22: below", x.low(0), RobbedOnce.BAD);
        d.due("22: above", x.low(41), RobbedOnce.BAD);
    }

    private static void spare() {
        RobbedOnce x = Due.townOf("5;p05=4,p15=9;51,50");
        d.due("23: the second", x.spare(1, 0), 1);
        d.due("23: how many", x.spare(1, 1), 1);
        RobbedOnce y = Due.townOf("5;p05=4,p15=9;50,51");
        d.due("23: the first", y.spare(1, 0), 0);
        d.due("23: how many", y.spare(1, 1), 1);
        RobbedOnce z = Due.townOf("5;p05=8,p05=9;50,50,50");
        d.due("23: of like ones the first", z.spare(1, 0), 0);
        d.due("23: how many", z.spare(1, 1), 2);
        z.nights(1);
        d.due("23: who is sworn counts", z.spare(40, 1), 2);
        RobbedOnce w = Due.townOf("5;p05=8");
        d.due("23: no thieves", w.spare(1, 0), RobbedOnce.NONE);
        d.due("23: no thieves", w.spare(1, 1), RobbedOnce.NONE);
        RobbedOnce v = new RobbedOnce();
        v.thief(0, 0);
        d.due("23: nobody to rob", v.spare(1, 0), 0);
        d.due("23: nobody to rob", v.spare(1, 1), 0);
        int[][] bad = {{0, 0}, {41, 0}, {1, 2}, {1, -1}};
        for (int[] b : bad) {
            d.due("23: bad", w.spare(b[0], b[1]), RobbedOnce.BAD);
        }
    }

    private static void match() {
        String[] texts = {"5;p05,p15;50,54", "5;p05=9,p15;54,50", "5;p05;54,54,54", "5;p05,p05,p05,p05,p05,p05;54,54,54,54",
            "5;p05x;54", "5;p06;54", "5;p05", "5;p05,p15,p25;50,50,54,54", "5;p05,p15,p25;50,51,50,51"};
        int[] most = {2, 2, 1, 4, 0, 0, 0, 3, 2};
        for (int i = 0; i < texts.length; i++) {
            d.due("24: " + texts[i], Due.townOf(texts[i]).match(), most[i]);
        }
        d.due("24: nobody", new RobbedOnce().match(), 0);
        RobbedOnce x = Due.townOf("5;p05=9,p05=4;54,54");
        x.nights(1);
        d.due("24: sworn ones are not robbed", x.match(), 1);
    }

    private static void care() {
        RobbedOnce x = Due.townOf("10;p05=10,p09=8;70");
        d.due("25: as much as the skill", x.care(0, 1), 7);
        d.due("25: it stays", x.of(0, 3), 5);
        d.due("25: none", x.care(1, 1), RobbedOnce.NONE);
        d.due("25: behind the other one", x.care(1, 2), 7);
        x.nights(1);
        d.due("25: it is sworn", x.care(0, 1), 9);
        d.due("25: no thief", Due.townOf("0;p00").care(0, 40), RobbedOnce.NONE);
        int[][] bad = {{2, 1}, {-1, 1}, {0, 0}, {0, 41}};
        for (int[] b : bad) {
            d.due("25: bad", x.care(b[0], b[1]), RobbedOnce.BAD);
        }
    }

    private static void leave() {
        odds("5;p05=9,p15;54,50", 0, new int[][] {{0, 1, 1}, {1, 99, 100}, {2, 24, 25}, {5, 3, 4}, {9, 19, 100}, {10, 0, 1}});
        odds("5;p05=9,p15;54,50", 1, new int[][] {{0, 0, 1}, {5, 0, 1}, {10, 0, 1}});
        odds("5;p05=9,p15;50,54", 1, new int[][] {{0, 1, 1}, {4, 9, 25}, {10, 0, 1}});
        odds("5;p05=9,p15;50,54", 0, new int[][] {{0, 1, 1}, {4, 21, 25}, {10, 0, 1}});
        odds("5;p05;54,54,54,54", 0, new int[][] {{1, 9999, 10000}, {3, 9919, 10000}, {5, 15, 16}, {6, 544, 625}});
        odds("5;p05", 0, new int[][] {{0, 0, 1}, {5, 0, 1}});
        odds("5;p05x;54", 0, new int[][] {{0, 0, 1}, {5, 0, 1}});
        RobbedOnce x = Due.townOf("5;p05;54");
        int[][] bad = {{1, 0, 0}, {-1, 0, 0}, {0, -1, 0}, {0, 11, 0}, {0, 0, 2}, {0, 0, -1}};
        for (int[] b : bad) {
            d.due("26: bad", x.leave(b[0], b[1], b[2]), RobbedOnce.BAD);
        }
    }

    private static void odds(String text, int a, int[][] fractions) {
        RobbedOnce x = Due.townOf(text);
        for (int[] f : fractions) {
            d.due("26: above, " + text + " by " + f[0], x.leave(a, f[0], 0), f[1]);
            d.due("26: below, " + text + " by " + f[0], x.leave(a, f[0], 1), f[2]);
        }
    }

    private static void image() {
        RobbedOnce x = Due.townOf("10;p05=12,f15x;54");
        d.due("28: there is none", x.restore(), RobbedOnce.NONE);
        x.seed(9);
        x.nights(2);
        x.teach(1, 0);
        d.due("27: kept", x.image(), 1);
        x.sheet(1, 0, 3);
        x.type('9');
        for (int again = 0; again < 2; again++) {
            x.drift(30);
            x.bar(50);
            x.thief(1, 1);
            x.apprentice(2, 2, 2);
            x.show(1, 1);
            d.due("28: as it was", x.restore(), 1);
            int[] counts = {2, 1, 2, 10, 1, 1, 8, 3};
            for (int what = 0; what < 8; what++) {
                d.due("28: count " + what, x.count(what), counts[what]);
            }
            d.due("28: the draw", x.seed(9), 9);
            d.due("28: undone", x.undo(), 2);
            d.due("28: careful", x.of(1, 3), 5);
            d.due("28: undone", x.undo(), 1);
            d.due("28: undone", x.undo(), 0);
            d.due("28: at first", x.count(2), 0);
        }
        d.due("28: sheets are as they are", x.drop(1), 3);
        d.due("28: the tape is as it is", x.type(';'), 2);
        x.image();
        x.nights(1);
        d.due("27: the later image", x.restore(), 1);
        d.due("27: of night 0", x.count(2), 0);
        RobbedOnce y = new RobbedOnce();
        d.due("27: of nobody", y.image(), 1);
        y.apprentice(0, 0, 0);
        d.due("28: nobody again", y.restore() + y.count(0), 1);
    }

    private static void nothingIsChanged() {
        RobbedOnce x = Due.townOf("10;p05=4,f15=7,d25x;54,91");
        x.seed(123);
        x.then(99);
        x.ahead(0, 50);
        x.sworn(0);
        x.robs(1);
        x.hides(2, 0);
        x.cover(0, 40, 0);
        x.low(40);
        x.spare(40, 0);
        x.match();
        x.care(0, 40);
        x.leave(0, 5, 0);
        x.sheet(0, 0, 24);
        x.film(0, 24, 0, 0, 0);
        x.grown(0, 0, 0, 0, 8, 1);
        int[] counts = {3, 2, 0, 10, 0, 3, 11, 0};
        for (int what = 0; what < 8; what++) {
            d.due("==== 2: count " + what, x.count(what), counts[what]);
        }
        d.due("==== 2: the draw", x.seed(1), 123);
        d.due("==== 2: careful", x.of(0, 3), 5);
        d.due("==== 2: kind", x.of(0, 0), 0);
    }
}
