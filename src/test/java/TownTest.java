/** Promises 1 to 9: a new object, apprentice, thief, bar, of, at, type, town, count. */
public final class TownTest {
    private static final Due d = new Due();

    public static void main(String[] args) {
        newObject();
        apprentice();
        thief();
        bar();
        of();
        at();
        type();
        townStands();
        townOfEightyLetters();
        townInPlaceOfAll();
        townFaults();
        count();
        d.end();
    }

    private static void newObject() {
        RobbedOnce x = new RobbedOnce();
        int[] counts = {0, 0, 0, 10, 0, 0, 0, 0};
        for (int what = 0; what < counts.length; what++) {
            d.due("1: count " + what, x.count(what), counts[what]);
        }
        d.due("1: the draw", x.seed(5), 1);
        d.due("1: no image", x.restore(), RobbedOnce.NONE);
        d.due("1: nothing to undo", x.undo(), RobbedOnce.NONE);
        for (int s = 0; s < 4; s++) {
            d.due("1: sheet " + s, x.drop(s), RobbedOnce.NULL);
        }
        d.due("1: the tape is empty", x.type('9'), 1);
        d.due("1: no apprentice", x.of(0, 0), RobbedOnce.BAD);
        d.due("1: no thief", x.at(0, 0), RobbedOnce.BAD);
    }

    private static void apprentice() {
        RobbedOnce x = new RobbedOnce();
        int[][] bad = {{-1, 0, 0}, {5, 0, 0}, {0, -1, 0}, {0, 4, 0}, {0, 0, -1}, {0, 0, 10},
            {Integer.MAX_VALUE, 0, 0}, {0, Integer.MIN_VALUE, 0}};
        for (int[] b : bad) {
            d.due("2: bad", x.apprentice(b[0], b[1], b[2]), RobbedOnce.BAD);
        }
        d.due("2: none came", x.count(0), 0);
        x.nights(1);
        d.due("2: refused, undo stays", x.apprentice(5, 0, 0) + x.count(7), 0);
        for (int a = 0; a < 6; a++) {
            d.due("2: number", x.apprentice(a % 5, a % 4, 9 - a), a);
            d.due("2: kind", x.of(a, 0), a % 5);
            d.due("2: sort", x.of(a, 1), a % 4);
            d.due("2: dear", x.of(a, 2), 0);
            d.due("2: careful", x.of(a, 3), 9 - a);
            d.due("2: shows", x.of(a, 4), 1);
            d.due("2: sworn", x.of(a, 5), 0);
            d.due("2: leaves nothing to undo", x.count(7), 0);
        }
        d.due("2: the night stays", x.count(2), 1);
        x.nights(2);
        d.due("2: full", x.apprentice(0, 0, 0), RobbedOnce.FULL);
        d.due("2: bad is named first", x.apprentice(0, 0, 10), RobbedOnce.BAD);
        d.due("2: full changes nothing", x.count(7), 2);
        d.due("2: still six", x.count(0), 6);
    }

    private static void thief() {
        RobbedOnce x = new RobbedOnce();
        int[][] bad = {{-1, 0}, {10, 0}, {0, -1}, {0, 5}};
        for (int[] b : bad) {
            d.due("3: bad", x.thief(b[0], b[1]), RobbedOnce.BAD);
        }
        x.nights(1);
        for (int t = 0; t < 4; t++) {
            d.due("3: number", x.thief(9 - t, t + 1), t);
            d.due("3: skill", x.at(t, 0), 9 - t);
            d.due("3: wants", x.at(t, 1), t + 1);
            d.due("3: leaves nothing to undo", x.count(7), 0);
        }
        x.nights(3);
        d.due("3: full", x.thief(0, 0), RobbedOnce.FULL);
        d.due("3: bad is named first", x.thief(10, 0), RobbedOnce.BAD);
        d.due("3: full changes nothing", x.count(7), 3);
    }

    private static void bar() {
        RobbedOnce x = Due.townOf("15;p00=20,p10=20;90");
        d.due("4: what it was", x.bar(99), 15);
        d.due("4: what it was", x.bar(0), 99);
        d.due("4: below", x.bar(-1), RobbedOnce.BAD);
        d.due("4: above", x.bar(100), RobbedOnce.BAD);
        d.due("4: refused, it stays", x.count(3), 0);
        d.due("4: nothing to undo", x.count(7), 0);
        x.bar(21);
        d.due("4: below the bar nobody is sworn", x.then(1), 0);
        x.bar(20);
        d.due("4: as dear as the bar is enough", x.then(1), 1);
    }

    private static void of() {
        RobbedOnce x = Due.townOf("50;f12=7,d24x,p12=60;10,21,31,94");
        int[][] want = {{1, 1, 7, 2, 1, 0, 14}, {3, 2, 0, 4, 0, 0, 0}, {0, 1, 60, 2, 1, 0, 14}};
        for (int a = 0; a < 3; a++) {
            for (int what = 0; what < 7; what++) {
                d.due("5: of " + a + " " + what, x.of(a, what), want[a][what]);
            }
        }
        x.nights(1);
        d.due("5: sworn", x.of(2, 5), 1);
        d.due("5: a sworn one shows as it did", x.of(2, 4), 1);
        d.due("5: its thing stays as it was", x.of(2, 2), 60);
        d.due("5: and its sort", x.of(2, 1), 1);
        d.due("5: nobody may rob a sworn one", x.of(2, 6), 0);
        int[][] bad = {{3, 0}, {-1, 0}, {0, 7}, {0, -1}, {Integer.MIN_VALUE, 0}, {0, Integer.MAX_VALUE}};
        for (int[] b : bad) {
            d.due("5: bad", x.of(b[0], b[1]), RobbedOnce.BAD);
        }
    }

    private static void at() {
        RobbedOnce x = Due.townOf("50;p05,p15,p26=50,p05x,p34,p05;54,50,44,02");
        int[] may = {1 | 2 | 16 | 32, 1 | 32, 16, 0};
        for (int t = 0; t < 4; t++) {
            d.due("6: may rob", x.at(t, 2), may[t]);
        }
        d.due("6: skill", x.at(2, 0), 4);
        d.due("6: wants", x.at(3, 1), 2);
        int[][] bad = {{4, 0}, {-1, 0}, {0, 3}, {0, -1}};
        for (int[] b : bad) {
            d.due("6: bad", x.at(b[0], b[1]), RobbedOnce.BAD);
        }
    }

    private static void type() {
        RobbedOnce x = new RobbedOnce();
        d.due("7: below", x.type(31), RobbedOnce.BAD);
        d.due("7: above", x.type(127), RobbedOnce.BAD);
        for (int i = 1; i <= 80; i++) {
            d.due("7: how many", x.type(i % 2 == 0 ? 32 : 126), i);
        }
        d.due("7: full", x.type(32), RobbedOnce.FULL);
        d.due("7: bad is named first", x.type(31), RobbedOnce.BAD);
        d.due("7: a tilde can't stand there", x.town(), -20);
        for (int i = 1; i <= 80; i++) {
            x.type(32);
        }
        d.due("7: eighty blanks", x.town(), -100);
        d.due("7: empty then", x.type(32), 1);
    }

    private static void townStands() {
        RobbedOnce x = new RobbedOnce();
        d.due("8: with blanks", Due.readInto(x, " 7 ; p 3 0 = 99 x , f 1 5 x,c00=05,d21 ; 5 4 , 90 "), 4);
        int[][] want = {{0, 3, 99, 0, 0}, {1, 1, 0, 5, 0}, {2, 0, 5, 0, 1}, {3, 2, 0, 1, 1}};
        for (int a = 0; a < 4; a++) {
            for (int what = 0; what < 5; what++) {
                d.due("8: of " + a + " " + what, x.of(a, what), want[a][what]);
            }
        }
        d.due("8: the bar", x.count(3), 7);
        d.due("8: thieves", x.count(1), 2);
        d.due("8: skill", x.at(0, 0), 5);
        d.due("8: wants", x.at(0, 1), 4);
        d.due("8: skill", x.at(1, 0), 9);
        d.due("8: wants", x.at(1, 1), 0);
        d.due("8: a fifth kind, no thieves", Due.readInto(x, "00;r39"), 1);
        d.due("8: rich", x.of(0, 0), 4);
        d.due("8: no thief is left", x.count(1), 0);
        d.due("8: six and four", Due.readInto(x, "9;p30,p30,p30,p30,p30,p30;54,54,54,54"), 6);
    }

    private static void townOfEightyLetters() {
        String blanks = " ".repeat(73);
        d.due("8: a number up to the last letter", Due.readInto(new RobbedOnce(), blanks + "9;p30=7"), 1);
        d.due("8: a digit is missing", Due.readInto(new RobbedOnce(), blanks + "10;p30="), -100);
        RobbedOnce x = Due.townOf(" 10;p30=77");
        d.due("8: what stood there before counts for nothing", Due.readInto(x, "10;p30=7"), 1);
        d.due("8: dear", x.of(0, 2), 7);
        d.due("8: a letter too many is not there", Due.readInto(x, blanks + "10;p30=7"), -100);
    }

    private static void townInPlaceOfAll() {
        RobbedOnce x = Due.townOf("5;p00=9,f11x;94");
        x.seed(77);
        x.sheet(2, 1, 5);
        x.image();
        d.due("8: one is sworn", x.nights(3), 1);
        d.due("8: a fault", Due.readInto(x, "9;p30?"), -25);
        d.due("8: a fault leaves the night", x.count(2), 3);
        d.due("8: a fault leaves who is sworn", x.count(4), 1);
        d.due("8: a fault leaves what may be undone", x.count(7), 3);
        d.due("8: a fault leaves the bar", x.count(3), 5);
        d.due("8: the tape is empty behind a fault", x.type('9'), 1);
        d.due("8: one comes in place of all", Due.readInto(x, "9;c23"), 1);
        d.due("8: night 0", x.count(2), 0);
        d.due("8: nobody sworn", x.count(4), 0);
        d.due("8: who shows", x.count(5), 1);
        d.due("8: nothing to be undone", x.undo(), RobbedOnce.NONE);
        d.due("8: the draw stays", x.seed(1), 77);
        d.due("8: sheets stay", x.drop(2), 5);
        d.due("8: the image stays", x.restore(), 1);
        d.due("8: and is what it was", x.count(0), 2);
    }

    private static void townFaults() {
        String[] texts = {"", "x", ";", "9", "99", "100", " 9", "9 9", "9  ", "9,p30", "9;", "9; ", "9;q", "9;P30",
            "9;p", "9;p4", "9;p3", "9;p3x", "9;p30=", "9;p30=x", "9;p30=100", "9;p30=1 0", "9;p30x=9", "9;p30xx",
            "9;p30,", "9;p30;", "9;p30;5", "9;p30;55", "9;p30;54,", "9;p30;54;", "9;p30;541", "9;p30 p30", "9;,p30",
            "9;p30,,p30", "9;p30;;", "9;p30;x4", "-1;p30", "9;p30,p30,p30,p30,p30,p30,p30", "9;p30;54,54,54,54,54",
            "  9 ;  ~", "9;p30 = 7 7", "9;p30;5 4 4"};
        int[] places = {0, 0, 0, 1, 2, 2, 2, 2, 3, 1, 2, 3, 2, 2,
            3, 3, 4, 4, 6, 6, 8, 8, 6, 6,
            6, 6, 7, 7, 9, 8, 8, 6, 2,
            6, 6, 6, 0, 25, 17,
            7, 10, 10};
        for (int i = 0; i < texts.length; i++) {
            RobbedOnce x = new RobbedOnce();
            d.due("8: fault of '" + texts[i] + "'", Due.readInto(x, texts[i]), -20 - places[i]);
            d.due("8: all else stays", x.count(0) + x.count(1) + x.count(5), 0);
            d.due("8: the bar stays", x.count(3), 10);
        }
    }

    private static void count() {
        RobbedOnce x = Due.townOf("30;p00=40,f11=5,d22=6x,p33=31;90");
        int[] before = {4, 1, 0, 30, 0, 11, 82, 0};
        for (int what = 0; what < 8; what++) {
            d.due("9: count " + what, x.count(what), before[what]);
        }
        x.nights(1);
        int[] behind = {4, 1, 1, 30, 1, 11, 9 + 10 + 33, 1};
        for (int what = 0; what < 8; what++) {
            d.due("9: count " + what + " a night later", x.count(what), behind[what]);
        }
        d.due("9: below", x.count(-1), RobbedOnce.BAD);
        d.due("9: above", x.count(8), RobbedOnce.BAD);
    }
}
