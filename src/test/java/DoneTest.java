/** Promises 10 to 15: nights, show, teach, drift, undo, seed. */
public final class DoneTest {
    private static final Due d = new Due();

    public static void main(String[] args) {
        growth();
        robbery();
        nights();
        lastNight();
        show();
        teach();
        drift();
        driftOfSworn();
        undo();
        undoWhateverWasTold();
        seed();
        d.end();
    }

    private static void growth() {
        String[] texts = {"9;p00", "9;f00", "9;c00", "9;d00", "9;d00x", "9;r00", "9;r00=3", "9;r00=5", "9;r00=6", "9;r00=7",
            "9;p00=98", "9;p00=99", "9;d00=93", "9;c00=98", "9;p00x"};
        int[][] dear = {{2, 4, 6, 8, 10}, {4, 8, 12, 16, 20}, {0, 2, 2, 4, 4}, {7, 14, 21, 28, 35}, {4, 8, 12, 16, 20},
            {0, 2, 2, 4, 4}, {3, 5, 5, 6, 6}, {5, 6, 6, 6, 6}, {6, 6, 6, 6, 6}, {7, 7, 7, 7, 7},
            {99, 99, 99, 99, 99}, {99, 99, 99, 99, 99}, {99, 99, 99, 99, 99}, {98, 99, 99, 99, 99}, {2, 4, 6, 8, 10}};
        for (int i = 0; i < texts.length; i++) {
            RobbedOnce x = Due.townOf(texts[i]);
            for (int n = 0; n < dear[i].length; n++) {
                x.nights(1);
                d.due("10: " + texts[i] + " behind " + (n + 1), x.of(0, 2), dear[i][n]);
            }
        }
    }

    private static void robbery() {
        RobbedOnce x = Due.townOf("10;p05=9,p05=9,f35=12,p06=50,p05=60x;50,54,54");
        d.due("10: who is sworn", x.nights(1), 4);
        int[][] sortAndDear = {{1, 0}, {1, 0}, {3, 12}, {0, 52}, {0, 62}};
        for (int a = 0; a < 5; a++) {
            d.due("10: sort of " + a, x.of(a, 1), sortAndDear[a][0]);
            d.due("10: dear of " + a, x.of(a, 2), sortAndDear[a][1]);
        }
        RobbedOnce y = Due.townOf("10;p35=9;53");
        y.nights(1);
        d.due("10: behind sort 3 comes 0", y.of(0, 1), 0);
        d.due("10: a new thing grows from the next night on", y.of(0, 2), 0);
        y.nights(1);
        d.due("10: then it grows", y.of(0, 2), 2);
        RobbedOnce z = Due.townOf("10;p05=9,p05=9;50");
        z.nights(1);
        d.due("10: of like ones the first", z.of(0, 2) * 100 + z.of(1, 2), 11);
    }

    private static void nights() {
        RobbedOnce x = Due.townOf("10;p00;50");
        d.due("10: none", x.nights(0), RobbedOnce.BAD);
        d.due("10: too many", x.nights(41), RobbedOnce.BAD);
        d.due("10: below", x.nights(-1), RobbedOnce.BAD);
        d.due("10: refused, it stays", x.count(2), 0);
        x.nights(5);
        d.due("10: the night", x.count(2), 5);
        d.due("10: each may be undone", x.count(7), 5);
        x.nights(40);
        d.due("10: the night", x.count(2), 45);
        d.due("10: eight are known", x.count(7), 8);
        d.due("10: undo one", x.undo(), 7);
        d.due("10: a night less", x.count(2), 44);
    }

    private static void lastNight() {
        RobbedOnce x = Due.townOf("10;c00");
        for (int i = 0; i < 249; i++) {
            x.nights(40);
        }
        d.due("10: the night", x.count(2), 9960);
        d.due("10: full", x.nights(40), RobbedOnce.FULL);
        d.due("13: full", x.drift(40), RobbedOnce.FULL);
        d.due("10: bad is named first", x.nights(41), RobbedOnce.BAD);
        d.due("13: bad is named first", x.drift(41), RobbedOnce.BAD);
        d.due("13: full changes nothing", x.seed(1), 1);
        x.nights(38);
        d.due("13: up to the last", x.drift(1), 0);
        d.due("10: the last night", x.count(2), 9999);
        d.due("10: full", x.nights(1), RobbedOnce.FULL);
        d.due("13: full", x.drift(1), RobbedOnce.FULL);
        d.due("16: foretold is more", x.ahead(0, 99), 99);
        d.due("14: undone", x.undo(), 7);
        d.due("10: room again", x.nights(1), 0);
    }

    private static void show() {
        RobbedOnce x = Due.townOf("10;p00=10,f10,d20x;90");
        d.due("11: it is so", x.show(0, 1), RobbedOnce.NOT);
        d.due("11: it is so", x.show(2, 0), RobbedOnce.NOT);
        d.due("11: hidden", x.show(1, 0), 1);
        d.due("11: shown", x.show(2, 1), 5);
        d.due("11: may be undone", x.count(7), 2);
        d.due("11: nobody", x.show(3, 0), RobbedOnce.BAD);
        d.due("11: nobody", x.show(-1, 0), RobbedOnce.BAD);
        d.due("11: no such", x.show(0, 2), RobbedOnce.BAD);
        d.due("11: no such", x.show(0, -1), RobbedOnce.BAD);
        d.due("11: sworn", x.nights(1), 1);
        d.due("11: doting, shown", x.of(2, 2), 7);
        d.due("11: a sworn one", x.show(0, 0), RobbedOnce.NOT);
        d.due("11: a sworn one", x.show(0, 1), RobbedOnce.NOT);
        d.due("11: bad is named first", x.show(0, 2), RobbedOnce.BAD);
        d.due("11: refused, it stays", x.count(7), 3);
    }

    private static void teach() {
        RobbedOnce x = Due.townOf("10;p05=10,f19;50");
        d.due("12: what it was", x.teach(0, 6), 5);
        d.due("12: nobody may rob it", x.of(0, 6), 0);
        d.due("12: it is so", x.teach(0, 6), RobbedOnce.NOT);
        d.due("12: below", x.teach(0, -1), RobbedOnce.BAD);
        d.due("12: above", x.teach(0, 10), RobbedOnce.BAD);
        d.due("12: nobody", x.teach(2, 1), RobbedOnce.BAD);
        d.due("12: nobody", x.teach(-1, 1), RobbedOnce.BAD);
        d.due("12: may be undone", x.count(7), 1);
        d.due("12: what it was", x.teach(0, 0), 6);
        d.due("12: sworn", x.nights(1), 1);
        d.due("12: a sworn one, too", x.teach(0, 9), 0);
        d.due("12: the edge", x.teach(1, 0), 9);
        d.due("12: undone", x.undo(), 4);
        d.due("12: as careful as it was", x.of(1, 3), 9);
    }

    private static void drift() {
        RobbedOnce x = Due.townOf("10;p00,p00,p00");
        int[] draws = {1103527590, 377401575, 662824084, 1147902781, 2035015474};
        int[] shows = {3, 1, 0, 2};
        for (int n = 0; n < 4; n++) {
            d.due("13: who is sworn", x.drift(1), 0);
            d.due("13: who shows", x.count(5), shows[n]);
            int draw = x.seed(0);
            d.due("13: the draw", draw, draws[n]);
            x.seed(draw);
        }
        d.due("13: each may be undone", x.count(7), 4);
        for (int n = 3; n > 0; n--) {
            d.due("14: undone", x.undo(), n);
            d.due("14: who shows", x.count(5), shows[n - 1]);
        }
        d.due("14: undone", x.undo(), 0);
        d.due("14: who shows", x.count(5), 7);
        d.due("14: the draw", x.seed(1), 1);
        d.due("13: four at once", x.drift(4), 0);
        d.due("13: who shows", x.count(5), 2);
        d.due("13: the night", x.count(2), 4);
        d.due("13: dear", x.of(0, 2), 8);
        d.due("13: none", x.drift(0), RobbedOnce.BAD);
        d.due("13: too many", x.drift(41), RobbedOnce.BAD);
        d.due("13: refused, the draw stays", x.seed(1), draws[3]);
        RobbedOnce y = new RobbedOnce();
        d.due("13: nobody", y.drift(5), 0);
        d.due("13: the draw goes on", y.seed(1), draws[4]);
        d.due("13: the night, too", y.count(2), 5);
        RobbedOnce z = Due.townOf("5;p00=9,p00=9,p00=9;90");
        d.due("13: who shows is drawn ahead of the night", z.drift(1), 1);
        d.due("13: who shows", z.count(5), 3);
        RobbedOnce w = Due.townOf("5;p00=9;90");
        d.due("13: hidden ahead of the night", w.drift(1), 0);
    }

    private static void driftOfSworn() {
        RobbedOnce x = Due.townOf("5;p00=9;90");
        d.due("13: sworn", x.nights(1), 1);
        x.drift(1);
        d.due("13: a sworn one may be drawn, too", x.count(5), 0);
        d.due("13: it is sworn", x.count(4), 1);
    }

    private static void undo() {
        RobbedOnce x = Due.townOf("10;p05=12,f15=3,d25;54,94");
        d.due("14: none", x.undo(), RobbedOnce.NONE);
        x.show(2, 0);
        x.teach(1, 9);
        d.due("14: a night", x.nights(1), 1);
        d.due("14: robbed", x.of(1, 1), 2);
        d.due("14: undone", x.undo(), 2);
        d.due("14: nobody sworn", x.count(4), 0);
        d.due("14: the thing is as it was", x.of(1, 1), 1);
        d.due("14: as dear as it was", x.of(1, 2), 3);
        d.due("14: the night", x.count(2), 0);
        d.due("14: undone", x.undo(), 1);
        d.due("14: as careful as it was", x.of(1, 3), 5);
        d.due("14: undone", x.undo(), 0);
        d.due("14: who shows", x.count(5), 7);
        d.due("14: none", x.undo(), RobbedOnce.NONE);
        for (int i = 0; i < 9; i++) {
            x.show(2, i % 2);
            x.teach(2, i);
        }
        x.nights(20);
        d.due("14: eight", x.count(7), 8);
        for (int left = 7; left >= 0; left--) {
            d.due("14: undone", x.undo(), left);
        }
        d.due("14: older ones are lost", x.undo(), RobbedOnce.NONE);
        d.due("14: the night", x.count(2), 12);
    }

    private static void undoWhateverWasTold() {
        RobbedOnce x = Due.townOf("10;p05=12;54");
        x.seed(40);
        x.show(0, 0);
        x.seed(41);
        x.bar(77);
        d.due("14: undone", x.undo(), 0);
        d.due("14: the draw is as ahead of it", x.seed(42), 40);
        d.due("14: the bar is not undone", x.count(3), 77);
        x.nights(2);
        x.thief(1, 1);
        d.due("14: a thief leaves nothing", x.undo(), RobbedOnce.NONE);
        x.nights(2);
        x.apprentice(1, 1, 1);
        d.due("14: an apprentice leaves nothing", x.undo(), RobbedOnce.NONE);
        x.nights(2);
        Due.readInto(x, "1;p00");
        d.due("14: a town leaves nothing", x.undo(), RobbedOnce.NONE);
    }

    private static void seed() {
        RobbedOnce x = new RobbedOnce();
        d.due("15: one at first", x.seed(0), 1);
        d.due("15: what it was", x.seed(Integer.MAX_VALUE), 0);
        d.due("15: below 0", x.seed(-1), RobbedOnce.BAD);
        d.due("15: below 0", x.seed(Integer.MIN_VALUE), RobbedOnce.BAD);
        d.due("15: refused, it stays", x.seed(7), Integer.MAX_VALUE);
        d.due("15: nothing to undo", x.count(7), 0);
        x.seed(Integer.MAX_VALUE);
        x.drift(1);
        // (2^31 - 1) times the factor, and 12345 more, is by its lowest 31 bits 2^31 less 1103515245 - 12345.
        d.due("15: the lowest 31 bits", x.seed(1), 2147483648L - 1103502900L);
    }
}
