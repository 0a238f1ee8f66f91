/** Promises 29 to 34: grown, film, sheet, drop, item, copy. */
public final class SheetsTest {
    private static final Due d = new Due();

    public static void main(String[] args) {
        grown();
        grownByRobbery();
        grownRefused();
        film();
        sheet();
        drop();
        item();
        copy();
        copyRefused();
        d.end();
    }

    /** The item, if it is 2 .. 99: apprentice 0 has to be plain, and nobody a thief. */
    private static int read(RobbedOnce x, int sheet, int lane, int i) {
        return x.grown(0, sheet, lane, i, 1, 2) + 2;
    }

    private static void fill(RobbedOnce x, int sheet, int lane, int from, int... items) {
        for (int i = 0; i < items.length; i++) {
            d.due("33: item", x.item(sheet, lane, from + i, items[i]), 1);
        }
    }

    private static void told(String text, int[] row, int kinds, int numbers, int least) {
        for (int lane = 0; lane < 4; lane++) {
            RobbedOnce x = Due.townOf(text);
            x.sheet(lane, lane, 10);
            fill(x, lane, lane, 2, row);
            d.due("29: kinds, " + text, x.grown(0, lane, lane, 2, row.length, 0), kinds);
            d.due("29: numbers, " + text, x.grown(0, lane, lane, 2, row.length, 1), numbers);
            d.due("29: the least, " + text, x.grown(0, lane, lane, 2, row.length, 2), least);
        }
    }

    private static void grown() {
        told("10;p05=4", new int[] {6, 8, 10}, 1, 1, 4);
        told("10;f05=4", new int[] {6, 8, 10}, 1, 0, RobbedOnce.NONE);
        told("10;p05=4x", new int[] {8, 12}, 2 | 8, 0, RobbedOnce.NONE);
        told("10;d05=4", new int[] {11, 18}, 8, 1, 4);
        told("10;c05=2", new int[] {2, 4, 4, 6, 6}, 4 | 16, 1, 2);
        told("10;r05=2", new int[] {2, 4, 4, 6, 6, 6, 6, 6}, 16, 1, 2);
        told("10;c05=2", new int[] {2, 4, 4, 6, 6, 8, 8, 10}, 4, 1, 2);
        told("10;r05=1", new int[] {5, 6}, 0, 1, 5);
        told("10;p05=97", new int[] {99, 99}, 1 | 2 | 8, 3, 97);
        told("10;p05", new int[] {0}, 4 | 16, 0, RobbedOnce.NONE);
        told("10;p05", new int[] {1}, 0, 0, RobbedOnce.NONE);
        told("10;p05", new int[] {100}, 0, 0, RobbedOnce.NONE);
        told("10;p05", new int[] {-1}, 0, 0, RobbedOnce.NONE);
    }

    private static void grownByRobbery() {
        told("10;p05;54", new int[] {0, 0, 0}, 31, 10, 0);
        told("10;p05=12;54", new int[] {12, 12}, 31, 1, 12);
        // The other one is robbed first: only then is it robbed itself.
        told("10;p05=4,p05=20;50", new int[] {6, 0}, 1, 1, 4);
        // With 18 it is robbed behind the other one, of 20; with 20, being the first of like ones, at once.
        told("10;p05=20,p05=20;50", new int[] {20, 20}, 31, 2, 18);
        RobbedOnce x = Due.townOf("10;p05=20,p05=20;50");
        x.sheet(0, 0, 2);
        fill(x, 0, 0, 0, 20, 20);
        d.due("29: the second one of like ones", x.grown(1, 0, 0, 0, 1, 0), 4 | 16);
        x.nights(1);
        d.due("29: a sworn one by any kind", x.grown(0, 0, 0, 0, 2, 0), 31);
        d.due("29: a sworn one stays", x.grown(0, 0, 0, 0, 2, 1), 1);
        d.due("29: as it was", x.grown(0, 0, 0, 0, 2, 2), 20);
    }

    private static void grownRefused() {
        RobbedOnce x = Due.townOf("10;p05=4");
        d.due("29: null", x.grown(0, 0, 0, 0, 1, 0), RobbedOnce.NULL);
        d.due("29: null ahead of index", x.grown(0, 0, 0, -1, 1, 0), RobbedOnce.NULL);
        x.sheet(0, 2, 10);
        d.due("29: cast", x.grown(0, 0, 1, 0, 1, 0), RobbedOnce.CAST);
        d.due("29: cast ahead of index", x.grown(0, 0, 3, 99, 1, 0), RobbedOnce.CAST);
        int[][] index = {{-1, 1}, {10, 1}, {3, 8}, {Integer.MAX_VALUE, 8}, {Integer.MIN_VALUE, 8}};
        for (int[] i : index) {
            d.due("29: index", x.grown(0, 0, 2, i[0], i[1], 0), RobbedOnce.INDEX);
        }
        d.due("29: up to the end", x.grown(0, 0, 2, 2, 8, 0), 0);
        int[][] bad = {{1, 0, 0, 0, 1, 0}, {-1, 0, 0, 0, 1, 0}, {0, 4, 0, 0, 1, 0}, {0, -1, 0, 0, 1, 0}, {0, 1, 4, 0, 1, 0},
            {0, 1, -1, 0, 1, 0}, {0, 1, 0, 0, 0, 0}, {0, 1, 0, 0, 9, 0}, {0, 1, 0, 0, 1, 3}, {0, 1, 0, 0, 1, -1}};
        for (int[] b : bad) {
            d.due("29: bad", x.grown(b[0], b[1], b[2], b[3], b[4], b[5]), RobbedOnce.BAD);
        }
    }

    private static void film() {
        for (int lane = 0; lane < 4; lane++) {
            RobbedOnce x = Due.townOf("10;p05=4,f05=9");
            x.sheet(3, lane, 24);
            fill(x, 3, lane, 0, 77, 77, 77, 77, 77, 77);
            d.due("30: how many", x.film(1, 3, 3, lane, 2), 3);
            int[] items = {77, 77, 13, 17, 21, 77};
            for (int i = 0; i < items.length; i++) {
                d.due("30: item " + i, read(x, 3, lane, i), items[i]);
            }
            d.due("30: all", x.film(1, 24, 3, lane, 0), 24);
            d.due("30: the last", read(x, 3, lane, 23), 99);
            d.due("30: the last but one", read(x, 3, lane, 21), 97);
            d.due("30: nothing is changed", x.of(1, 2) + x.count(2), 9);
        }
        RobbedOnce x = Due.townOf("10;p05=4");
        d.due("30: null", x.film(0, 1, 0, 0, -1), RobbedOnce.NULL);
        x.sheet(0, 0, 10);
        fill(x, 0, 0, 0, 50, 50, 50, 50, 50, 50, 50, 50, 50, 50);
        d.due("30: cast", x.film(0, 11, 0, 1, -1), RobbedOnce.CAST);
        int[][] index = {{11, 0}, {1, 10}, {1, -1}, {5, 6}, {24, Integer.MAX_VALUE}};
        for (int[] i : index) {
            d.due("30: index", x.film(0, i[0], 0, 0, i[1]), RobbedOnce.INDEX);
        }
        for (int i = 0; i < 10; i++) {
            d.due("30: refused, items stay", read(x, 0, 0, i), 50);
        }
        int[][] bad = {{1, 1, 0, 0}, {-1, 1, 0, 0}, {0, 0, 0, 0}, {0, 25, 0, 0}, {0, 1, 4, 0}, {0, 1, -1, 0}, {0, 1, 1, 4},
            {0, 1, 1, -1}};
        for (int[] b : bad) {
            d.due("30: bad", x.film(b[0], b[1], b[2], b[3], 0), RobbedOnce.BAD);
        }
    }

    private static void sheet() {
        RobbedOnce x = Due.townOf("10;c05");
        d.due("31: of none", x.sheet(0, 0, 0), 0);
        d.due("31: has no item", x.item(0, 0, 0, 1), RobbedOnce.INDEX);
        d.due("31: it holds a row", x.drop(0), 0);
        d.due("31: of most", x.sheet(3, 3, 24), 24);
        d.due("31: last item", x.item(3, 3, 23, 9), 1);
        d.due("31: another lane", x.sheet(3, 2, 24), 24);
        d.due("31: is another row", x.item(3, 3, 0, 1), RobbedOnce.CAST);
        d.due("31: a new row has noughts", x.grown(0, 3, 2, 23, 1, 2), 0);
        d.due("31: too many", x.sheet(0, 0, 25), RobbedOnce.BAD);
        d.due("31: size", x.sheet(3, 0, -1), RobbedOnce.SIZE);
        d.due("31: size", x.sheet(3, 0, Integer.MIN_VALUE), RobbedOnce.SIZE);
        int[][] bad = {{4, 0, 1}, {-1, 0, 1}, {0, 4, 1}, {0, -1, 1}, {0, 4, -1}, {4, 0, -1}};
        for (int[] b : bad) {
            d.due("31: bad", x.sheet(b[0], b[1], b[2]), RobbedOnce.BAD);
        }
        d.due("31: refused, it stays", x.drop(3), 24);
        d.due("31: refused, it stays", x.drop(0), RobbedOnce.NULL);
    }

    private static void drop() {
        RobbedOnce x = new RobbedOnce();
        d.due("32: null", x.drop(2), RobbedOnce.NULL);
        x.sheet(2, 1, 7);
        d.due("32: how many", x.drop(2), 7);
        d.due("32: null", x.drop(2), RobbedOnce.NULL);
        d.due("32: holds nothing", x.item(2, 1, 0, 0), RobbedOnce.NULL);
        d.due("32: above", x.drop(4), RobbedOnce.BAD);
        d.due("32: below", x.drop(-1), RobbedOnce.BAD);
    }

    private static void item() {
        RobbedOnce x = Due.townOf("10;p05");
        long[] beyond = {1L << 8, 1L << 16, 1L << 32, 0};
        for (int lane = 0; lane < 4; lane++) {
            x.sheet(lane, lane, 3);
            d.due("33: becomes", x.item(lane, lane, 2, 40 + beyond[lane]), 1);
            d.due("33: the lowest bits", read(x, lane, lane, 2), 40);
            d.due("33: becomes", x.item(lane, lane, 2, 41 - beyond[lane]), 1);
            d.due("33: the lowest bits", read(x, lane, lane, 2), 41);
            d.due("33: index", x.item(lane, lane, 3, 1), RobbedOnce.INDEX);
            d.due("33: index", x.item(lane, lane, -1, 1), RobbedOnce.INDEX);
            d.due("33: cast", x.item(lane, (lane + 1) % 4, -1, 1), RobbedOnce.CAST);
            d.due("33: refused, it stays", read(x, lane, lane, 2), 41);
        }
        for (int lane = 0; lane < 3; lane++) {
            x.item(lane + 1, lane + 1, 0, 50 + beyond[lane]);
            d.due("33: no bits are lost", x.grown(0, lane + 1, lane + 1, 0, 1, 1), 0);
        }
        x.drop(0);
        d.due("33: null", x.item(0, 0, -1, 1), RobbedOnce.NULL);
        int[][] bad = {{4, 0}, {-1, 0}, {0, 4}, {0, -1}};
        for (int[] b : bad) {
            d.due("33: bad", x.item(b[0], b[1], 0, 1), RobbedOnce.BAD);
        }
    }

    private static void copy() {
        for (int lane = 0; lane < 4; lane++) {
            RobbedOnce x = Due.townOf("10;p05");
            x.sheet(0, lane, 6);
            x.sheet(1, lane, 4);
            fill(x, 0, lane, 0, 10, 11, 12, 13, 14, 15);
            fill(x, 1, lane, 0, 20, 21, 22, 23);
            d.due("34: to another one", x.copy(0, 3, 1, 1, 3), 3);
            holds(x, 1, lane, 20, 13, 14, 15);
            d.due("34: up", x.copy(0, 0, 0, 2, 4), 4);
            holds(x, 0, lane, 10, 11, 10, 11, 12, 13);
            d.due("34: down", x.copy(0, 1, 0, 0, 5), 5);
            holds(x, 0, lane, 11, 10, 11, 12, 13, 13);
            d.due("34: none at the end", x.copy(0, 6, 1, 4, 0), 0);
            d.due("34: onto itself", x.copy(0, 0, 0, 0, 6), 6);
            holds(x, 0, lane, 11, 10, 11, 12, 13, 13);
            holds(x, 1, lane, 20, 13, 14, 15);
        }
    }

    private static void holds(RobbedOnce x, int sheet, int lane, int... items) {
        for (int i = 0; i < items.length; i++) {
            d.due("34: item " + i, read(x, sheet, lane, i), items[i]);
        }
    }

    private static void copyRefused() {
        RobbedOnce x = Due.townOf("10;p05");
        x.sheet(0, 1, 6);
        x.sheet(1, 1, 4);
        x.sheet(2, 2, 4);
        fill(x, 1, 1, 0, 20, 21, 22, 23);
        int[][] index = {{-1, 0, 1}, {0, -1, 1}, {0, 0, 5}, {3, 0, 4}, {0, 2, 3}, {7, 0, 0}, {0, 5, 0}, {0, 0, -1},
            {Integer.MAX_VALUE, 0, 1}, {0, Integer.MAX_VALUE, 1}, {0, 0, Integer.MAX_VALUE}, {1, 1, Integer.MAX_VALUE},
            {0, 0, Integer.MIN_VALUE}, {Integer.MIN_VALUE, 0, Integer.MIN_VALUE}};
        for (int[] i : index) {
            d.due("34: index", x.copy(0, i[0], 1, i[1], i[2]), RobbedOnce.INDEX);
        }
        holds(x, 1, 1, 20, 21, 22, 23);
        d.due("34: cast ahead of index", x.copy(0, 0, 2, 0, 99), RobbedOnce.CAST);
        d.due("34: cast, even of none", x.copy(0, 0, 2, 0, 0), RobbedOnce.CAST);
        d.due("34: null ahead of index", x.copy(3, -1, 0, 0, 1), RobbedOnce.NULL);
        d.due("34: null, either", x.copy(0, -1, 3, 0, 1), RobbedOnce.NULL);
        d.due("34: null, both", x.copy(3, 0, 3, 0, 0), RobbedOnce.NULL);
        int[][] bad = {{4, 0}, {-1, 0}, {0, 4}, {0, -1}, {3, 4}, {4, 3}};
        for (int[] b : bad) {
            d.due("34: bad", x.copy(b[0], 0, b[1], 0, 1), RobbedOnce.BAD);
        }
    }
}
