/** The boundaries of GROWN, of sheets, and of promises 29 to 34. */
public final class EdgesSheetsTest {
    private static final Edges e = new Edges();

    public static void main(String[] args) {
        sheetNumbers();
        lanes();
        items();
        grownNights();
        grownNumbers();
        grownKinds();
        grownNone();
        grownWhat();
        grownFromItem();
        filmNights();
        filmFromItem();
        filmOfRobbed();
        newRow();
        tooManyOrTooFew();
        drop();
        itemNumbers();
        lowestBits();
        castOfEachLane();
        copyMany();
        copyTakenAhead();
        copyNull();
        copyCast();
        copyIndex();
        e.end();
    }

    /** One plain apprentice and no thief: an item of 2 .. 99 is told by the least number by which it is so. */
    private static RobbedOnce withSheet(int lane, int n) {
        RobbedOnce x = Due.townOf("10;p05=4");
        x.sheet(0, lane, n);
        return x;
    }

    private static int read(RobbedOnce x, int sheet, int lane, int i) {
        return x.grown(0, sheet, lane, i, 1, 2) + 2;
    }

    private static void write(RobbedOnce x, int sheet, int lane, int... row) {
        for (int i = 0; i < row.length; i++) {
            x.item(sheet, lane, i, row[i]);
        }
    }

    /** The items that a sheet has, as one number: each below 100. */
    private static long row(RobbedOnce x, int sheet, int lane, int n) {
        long digits = 0;
        for (int i = 0; i < n; i++) {
            digits = 100 * digits + read(x, sheet, lane, i);
        }
        return digits;
    }

    private static void sheetNumbers() {
        e.sentence("3 sheets 0 .. 3: nothing (at first)");
        RobbedOnce x = Due.townOf("10;p05");
        for (int s = 0; s < 4; s++) {
            e.at("nothing at first in " + s, x.drop(s), RobbedOnce.NULL);
        }
        e.at("0", x.sheet(0, 0, 1), 1);
        e.inside("1", x.sheet(1, 0, 2), 2);
        e.inside("2", x.sheet(2, 0, 3), 3);
        e.at("3", x.sheet(3, 0, 4), 4);
        int[] none = {-1, 4, Integer.MIN_VALUE, Integer.MAX_VALUE};
        for (int s : none) {
            e.outside("sheet " + s, x.sheet(s, 0, 1), RobbedOnce.BAD);
            e.outside("item of " + s, x.item(s, 0, 0, 1), RobbedOnce.BAD);
            e.outside("grown by " + s, x.grown(0, s, 0, 0, 1, 0), RobbedOnce.BAD);
            e.outside("film to " + s, x.film(0, 1, s, 0, 0), RobbedOnce.BAD);
            e.outside("copy from " + s, x.copy(s, 0, 0, 0, 1), RobbedOnce.BAD);
            e.outside("copy to " + s, x.copy(0, 0, s, 0, 1), RobbedOnce.BAD);
            e.outside("drop of " + s, x.drop(s), RobbedOnce.BAD);
        }
        for (int s = 0; s < 4; s++) {
            e.at("drop of " + s, x.drop(s), s + 1);
        }
    }

    private static void lanes() {
        e.sentence("or a row of a LANE: 0 bytes, 1 shorts, 2 ints, 3 longs");
        RobbedOnce x = Due.townOf("10;p05");
        for (int lane = 0; lane < 4; lane++) {
            if (lane == 0 || lane == 3) {
                e.at("sheet of " + lane, x.sheet(0, lane, 1), 1);
                e.at("item of " + lane, x.item(0, lane, 0, 7), 1);
            } else {
                e.inside("sheet of " + lane, x.sheet(0, lane, 1), 1);
                e.inside("item of " + lane, x.item(0, lane, 0, 7), 1);
            }
            int[] none = {-1, 4, Integer.MIN_VALUE, Integer.MAX_VALUE};
            for (int other : none) {
                e.outside("sheet of " + other, x.sheet(0, other, 1), RobbedOnce.BAD);
                e.outside("item of " + other, x.item(0, other, 0, 1), RobbedOnce.BAD);
                e.outside("grown by " + other, x.grown(0, 0, other, 0, 1, 0), RobbedOnce.BAD);
                e.outside("film to " + other, x.film(0, 1, 0, other, 0), RobbedOnce.BAD);
            }
            e.inside("it stays", read(x, 0, lane, 0), 7);
        }
    }

    private static void items() {
        e.sentence("of 0 to 24 items.");
        RobbedOnce x = Due.townOf("10;p05");
        e.at("0", x.sheet(0, 0, 0), 0);
        e.at("no item of 0", x.item(0, 0, 0, 1), RobbedOnce.INDEX);
        e.at("it is not nothing", x.drop(0), 0);
        e.inside("1", x.sheet(0, 0, 1), 1);
        e.inside("the last of 1", x.item(0, 0, 0, 1), 1);
        e.outside("behind the last of 1", x.item(0, 0, 1, 1), RobbedOnce.INDEX);
        e.inside("23", x.sheet(0, 0, 23), 23);
        e.outside("behind the last of 23", x.item(0, 0, 23, 1), RobbedOnce.INDEX);
        e.at("24", x.sheet(0, 0, 24), 24);
        e.at("the last of 24", x.item(0, 0, 23, 1), 1);
        e.outside("behind the last of 24", x.item(0, 0, 24, 1), RobbedOnce.INDEX);
        e.outside("25", x.sheet(0, 0, 25), RobbedOnce.BAD);
        e.outside("-1", x.sheet(0, 0, -1), RobbedOnce.SIZE);
        e.at("it stays", x.drop(0), 24);
    }

    private static void grownNights() {
        e.sentence("a row tells how DEAR the THING of one is behind each of the next n NIGHTS (1 .. 8)");
        RobbedOnce x = withSheet(1, 9);
        x.film(0, 8, 0, 1, 0);
        x.item(0, 1, 8, 50);
        e.outside("0", x.grown(0, 0, 1, 0, 0, 0), RobbedOnce.BAD);
        e.outside("-1", x.grown(0, 0, 1, 0, -1, 0), RobbedOnce.BAD);
        e.at("1", x.grown(0, 0, 1, 0, 1, 0), 1);
        e.inside("2", x.grown(0, 0, 1, 0, 2, 0), 1);
        e.inside("7", x.grown(0, 0, 1, 0, 7, 0), 1);
        e.at("8", x.grown(0, 0, 1, 0, 8, 0), 1);
        e.outside("9", x.grown(0, 0, 1, 0, 9, 0), RobbedOnce.BAD);
        x.item(0, 1, 7, 50);
        e.at("8, the last is not so", x.grown(0, 0, 1, 0, 8, 0), 0);
        e.inside("7, the last is not looked at", x.grown(0, 0, 1, 0, 7, 0), 1);
        x.item(0, 1, 0, 5);
        e.at("1, the first is not so", x.grown(0, 0, 1, 0, 1, 0), 0);
    }

    private static void grownNumbers() {
        e.sentence("by how much (0 .. 99) it might be DEAR now: how many such numbers; the least; none");
        RobbedOnce x = withSheet(3, 4);
        write(x, 0, 3, 2, 99, 1, 100);
        e.at("0: how many", x.grown(0, 0, 3, 0, 1, 1), 1);
        e.at("0: the least", x.grown(0, 0, 3, 0, 1, 2), 0);
        e.at("97, 98, 99: how many", x.grown(0, 0, 3, 1, 1, 1), 3);
        e.inside("97, 98, 99: the least", x.grown(0, 0, 3, 1, 1, 2), 97);
        e.outside("-1: how many", x.grown(0, 0, 3, 2, 1, 1), 0);
        e.outside("-1: the least", x.grown(0, 0, 3, 2, 1, 2), RobbedOnce.NONE);
        e.outside("98 and 2 more are 99: how many", x.grown(0, 0, 3, 3, 1, 1), 0);
        e.outside("98 and 2 more are 99: the least", x.grown(0, 0, 3, 3, 1, 2), RobbedOnce.NONE);
        // Robbed each night of less than the bar: whatever is below it would be so.
        RobbedOnce y = Due.townOf("99;p05;54");
        y.sheet(0, 0, 8);
        e.inside("0 .. 98: how many", y.grown(0, 0, 0, 0, 8, 1), 99);
        e.at("0 .. 98: the least", y.grown(0, 0, 0, 0, 8, 2), 0);
        RobbedOnce z = Due.townOf("99;c00");
        z.sheet(0, 0, 1);
        z.item(0, 0, 0, 99);
        e.at("99 alone: the least", z.grown(0, 0, 0, 0, 1, 2), 99);
        e.at("99 alone: how many", z.grown(0, 0, 0, 0, 1, 1), 1);
        z.item(0, 0, 0, 98);
        e.inside("98 alone: the least", z.grown(0, 0, 0, 0, 1, 2), 98);
    }

    private static void grownKinds() {
        e.sentence("KINDS (a set) of it by which it would be so");
        RobbedOnce x = Due.townOf("99;p00=6");
        x.sheet(0, 0, 3);
        write(x, 0, 0, 6, 6, 7);
        e.inside("in night 0 by 2 and 4", x.grown(0, 0, 0, 0, 1, 0), 4 | 16);
        e.at("in nights 0 and 1 by 4 alone", x.grown(0, 0, 0, 0, 2, 0), 16);
        e.outside("by none", x.grown(0, 0, 0, 2, 1, 0), 0);
        write(x, 0, 0, 8, 10, 13);
        e.at("by 0 alone", x.grown(0, 0, 0, 0, 2, 0), 1);
        e.inside("by 1 alone", x.grown(0, 0, 0, 1, 1, 0), 2);
        e.inside("by 3 alone", x.grown(0, 0, 0, 2, 1, 0), 8);
        RobbedOnce y = Due.townOf("99;p00=99;94");
        y.nights(1);
        y.sheet(0, 0, 2);
        write(y, 0, 0, 99, 98);
        e.at("of a sworn one by all five", y.grown(0, 0, 0, 0, 1, 0), 31);
        e.outside("of a sworn one by none", y.grown(0, 0, 0, 1, 1, 0), 0);
    }

    private static void grownNone() {
        e.sentence("KINDS (what 0), how many numbers (1), the least (2; NONE).");
        RobbedOnce x = withSheet(0, 2);
        write(x, 0, 0, 6, 1);
        e.inside("one number", x.grown(0, 0, 0, 0, 1, 1), 1);
        e.at("no number: kinds", x.grown(0, 0, 0, 1, 1, 0), 0);
        e.at("no number: how many", x.grown(0, 0, 0, 1, 1, 1), 0);
        e.outside("no number: the least", x.grown(0, 0, 0, 1, 1, 2), RobbedOnce.NONE);
    }

    private static void grownWhat() {
        e.sentence("from item i on: KINDS (what 0), how many numbers (1), the least (2; NONE). BAD; NULL; CAST; INDEX.");
        RobbedOnce x = withSheet(0, 1);
        x.item(0, 0, 0, 6);
        e.at("what 0", x.grown(0, 0, 0, 0, 1, 0), 1);
        e.inside("what 1", x.grown(0, 0, 0, 0, 1, 1), 1);
        e.at("what 2", x.grown(0, 0, 0, 0, 1, 2), 4);
        e.outside("what 3", x.grown(0, 0, 0, 0, 1, 3), RobbedOnce.BAD);
        e.outside("what -1", x.grown(0, 0, 0, 0, 1, -1), RobbedOnce.BAD);
        e.outside("apprentice 1", x.grown(1, 0, 0, 0, 1, 0), RobbedOnce.BAD);
        e.outside("apprentice -1", x.grown(-1, 0, 0, 0, 1, 0), RobbedOnce.BAD);
    }

    private static void grownFromItem() {
        e.sentence("by n items of a SHEET taken as a row of a LANE, from item i on");
        RobbedOnce x = withSheet(2, 10);
        e.outside("-1", x.grown(0, 0, 2, -1, 1, 0), RobbedOnce.INDEX);
        e.at("0", x.grown(0, 0, 2, 0, 8, 0), 0);
        e.inside("1", x.grown(0, 0, 2, 1, 8, 0), 0);
        e.at("2, up to the last", x.grown(0, 0, 2, 2, 8, 0), 0);
        e.outside("3, one beyond the last", x.grown(0, 0, 2, 3, 8, 0), RobbedOnce.INDEX);
        e.at("the last alone", x.grown(0, 0, 2, 9, 1, 0), 0);
        e.outside("behind the last", x.grown(0, 0, 2, 10, 1, 0), RobbedOnce.INDEX);
        e.outside("the greatest int", x.grown(0, 0, 2, Integer.MAX_VALUE, 1, 0), RobbedOnce.INDEX);
        e.outside("the least int", x.grown(0, 0, 2, Integer.MIN_VALUE, 8, 0), RobbedOnce.INDEX);
        x.sheet(0, 2, 0);
        e.outside("of no items", x.grown(0, 0, 2, 0, 1, 0), RobbedOnce.INDEX);
    }

    private static void filmNights() {
        e.sentence("How DEAR a THING is behind 1, 2, .. n NIGHTS (1 .. 24), an item each");
        RobbedOnce x = withSheet(0, 24);
        e.outside("0", x.film(0, 0, 0, 0, 0), RobbedOnce.BAD);
        e.outside("-1", x.film(0, -1, 0, 0, 0), RobbedOnce.BAD);
        e.outside("25", x.film(0, 25, 0, 0, 0), RobbedOnce.BAD);
        e.at("1", x.film(0, 1, 0, 0, 0), 1);
        e.at("behind 1", read(x, 0, 0, 0), 6);
        e.outside("no more than one", x.grown(0, 0, 0, 1, 1, 1), 0);
        e.inside("2", x.film(0, 2, 0, 0, 0), 2);
        e.inside("behind 2", read(x, 0, 0, 1), 8);
        e.inside("23", x.film(0, 23, 0, 0, 0), 23);
        e.inside("behind 23", read(x, 0, 0, 22), 50);
        e.outside("no more than 23", x.grown(0, 0, 0, 23, 1, 1), 0);
        e.at("24", x.film(0, 24, 0, 0, 0), 24);
        e.at("behind 24", read(x, 0, 0, 23), 52);
        e.outside("apprentice 1", x.film(1, 1, 0, 0, 0), RobbedOnce.BAD);
        e.outside("apprentice -1", x.film(-1, 1, 0, 0, 0), RobbedOnce.BAD);
    }

    private static void filmFromItem() {
        e.sentence("comes to a SHEET likewise: n. BAD; NULL; CAST; INDEX.");
        RobbedOnce x = withSheet(1, 5);
        write(x, 0, 1, 70, 71, 72, 73, 74);
        e.outside("from -1", x.film(0, 2, 0, 1, -1), RobbedOnce.INDEX);
        e.outside("one beyond the last", x.film(0, 2, 0, 1, 4), RobbedOnce.INDEX);
        e.outside("more than there are", x.film(0, 6, 0, 1, 0), RobbedOnce.INDEX);
        e.outside("the greatest int", x.film(0, 24, 0, 1, Integer.MAX_VALUE), RobbedOnce.INDEX);
        e.outside("the least int", x.film(0, 24, 0, 1, Integer.MIN_VALUE), RobbedOnce.INDEX);
        e.outside("nothing came", row(x, 0, 1, 5), 7071727374L);
        e.inside("from 2", x.film(0, 2, 0, 1, 2), 2);
        e.inside("it came", row(x, 0, 1, 5), 7071060874L);
        e.at("from 3, up to the last", x.film(0, 2, 0, 1, 3), 2);
        e.at("it came", row(x, 0, 1, 5), 7071060608L);
        e.at("from 0, all", x.film(0, 5, 0, 1, 0), 5);
        e.at("it came", row(x, 0, 1, 5), 608101214L);
    }

    private static void filmOfRobbed() {
        e.sentence("How DEAR a THING is behind 1, 2, .. n NIGHTS (1 .. 24), an item each, comes to a SHEET likewise: n.");
        // The first is careless, and too careful for thieves: an item is the least number by which it is so in night 0.
        RobbedOnce x = Due.townOf("10;c09,p05=9,f15=10;50,51");
        x.sheet(0, 0, 4);
        x.film(1, 4, 0, 0, 0);
        int[] robbed = {0, 0, 2, 4};
        for (int i = 0; i < robbed.length; i++) {
            e.at("robbed in nights 0 and 1, item " + i, x.grown(0, 0, 0, i, 1, 2), robbed[i]);
        }
        x.film(2, 4, 0, 0, 0);
        for (int i = 0; i < 4; i++) {
            e.inside("sworn in night 0, item " + i, x.grown(0, 0, 0, i, 1, 2), 10);
        }
        x.film(0, 4, 0, 0, 0);
        e.outside("never robbed", x.grown(0, 0, 0, 3, 1, 2), 4);
    }

    private static void newRow() {
        e.sentence("A SHEET holds a new row of a LANE: n.");
        RobbedOnce x = Due.townOf("10;c05");
        x.sheet(0, 0, 3);
        for (int i = 0; i < 3; i++) {
            x.item(0, 0, i, 9);
        }
        e.at("as long", x.sheet(0, 0, 3), 3);
        for (int i = 0; i < 3; i++) {
            e.at("new item " + i, x.grown(0, 0, 0, i, 1, 2), 0);
        }
        x.item(0, 0, 2, 9);
        e.inside("shorter by one", x.sheet(0, 0, 2), 2);
        e.outside("its last is gone", x.item(0, 0, 2, 9), RobbedOnce.INDEX);
        e.inside("longer by one", x.sheet(0, 0, 3), 3);
        e.inside("what was there is not", x.grown(0, 0, 0, 2, 1, 2), 0);
        e.outside("another lane", x.sheet(0, 1, 3), 3);
        e.outside("it is another lane", x.item(0, 0, 0, 1), RobbedOnce.CAST);
    }

    private static void tooManyOrTooFew() {
        e.sentence("BAD: also n above 24; SIZE: n below 0.");
        RobbedOnce x = Due.townOf("10;c05");
        e.inside("23", x.sheet(1, 3, 23), 23);
        e.at("24", x.sheet(1, 3, 24), 24);
        e.outside("25", x.sheet(1, 3, 25), RobbedOnce.BAD);
        e.outside("the greatest int", x.sheet(1, 3, Integer.MAX_VALUE), RobbedOnce.BAD);
        e.outside("it stays", x.item(1, 3, 23, 1), 1);
        e.inside("1", x.sheet(1, 3, 1), 1);
        e.at("0", x.sheet(1, 3, 0), 0);
        e.outside("-1", x.sheet(1, 3, -1), RobbedOnce.SIZE);
        e.outside("the least int", x.sheet(1, 3, Integer.MIN_VALUE), RobbedOnce.SIZE);
        e.outside("bad is named first", x.sheet(4, 3, -1), RobbedOnce.BAD);
        e.outside("bad is named first", x.sheet(1, 4, -1), RobbedOnce.BAD);
        e.outside("it stays", x.drop(1), 0);
        e.outside("nothing stays", x.sheet(2, 0, -1), RobbedOnce.SIZE);
        e.outside("nothing stays", x.drop(2), RobbedOnce.NULL);
    }

    private static void drop() {
        e.sentence("A SHEET holds nothing: how many items it had. BAD; NULL.");
        RobbedOnce x = Due.townOf("10;p05");
        x.sheet(3, 0, 24);
        e.at("24", x.drop(3), 24);
        e.outside("nothing", x.drop(3), RobbedOnce.NULL);
        x.sheet(3, 0, 1);
        e.inside("1", x.drop(3), 1);
        x.sheet(3, 0, 0);
        e.at("0", x.drop(3), 0);
        e.outside("nothing", x.drop(3), RobbedOnce.NULL);
        e.outside("4", x.drop(4), RobbedOnce.BAD);
        e.outside("-1", x.drop(-1), RobbedOnce.BAD);
        e.outside("no item of nothing", x.item(3, 0, 0, 1), RobbedOnce.NULL);
        e.outside("no film to nothing", x.film(0, 1, 3, 0, 0), RobbedOnce.NULL);
        e.outside("not grown by nothing", x.grown(0, 3, 0, 0, 1, 0), RobbedOnce.NULL);
        e.outside("no copy of nothing", x.copy(3, 0, 3, 0, 0), RobbedOnce.NULL);
    }

    private static void itemNumbers() {
        e.sentence("Item i of a SHEET, taken as a row of a LANE, becomes v");
        RobbedOnce x = withSheet(2, 3);
        write(x, 0, 2, 30, 31, 32);
        e.outside("-1", x.item(0, 2, -1, 9), RobbedOnce.INDEX);
        e.outside("3", x.item(0, 2, 3, 9), RobbedOnce.INDEX);
        e.outside("the greatest int", x.item(0, 2, Integer.MAX_VALUE, 9), RobbedOnce.INDEX);
        e.outside("the least int", x.item(0, 2, Integer.MIN_VALUE, 9), RobbedOnce.INDEX);
        e.outside("another lane", x.item(0, 1, 0, 9), RobbedOnce.CAST);
        e.outside("they stay", row(x, 0, 2, 3), 303132);
        e.at("0", x.item(0, 2, 0, 40), 1);
        e.inside("1", x.item(0, 2, 1, 41), 1);
        e.at("2", x.item(0, 2, 2, 42), 1);
        e.at("they are", row(x, 0, 2, 3), 404142);
    }

    private static void lowestBits() {
        e.sentence("becomes v, its lowest bits: 1.");
        int[] bits = {8, 16, 32, 64};
        for (int lane = 0; lane < 4; lane++) {
            RobbedOnce x = withSheet(lane, 1);
            e.inside("50 in lane " + lane, x.item(0, lane, 0, 50), 1);
            e.inside("50 in lane " + lane, read(x, 0, lane, 0), 50);
            // The highest bit of the lane is kept, so that it is no number that a thing could be dear by.
            x.item(0, lane, 0, 50 + (1L << (bits[lane] - 1)));
            e.at("the highest bit in lane " + lane, x.grown(0, 0, lane, 0, 1, 1), 0);
            x.item(0, lane, 0, -206);
            e.inside("-206 in lane " + lane, x.grown(0, 0, lane, 0, 1, 1), lane == 0 ? 1 : 0);
            if (bits[lane] < 64) {
                x.item(0, lane, 0, 51 + (1L << bits[lane]));
                e.outside("one bit more is cut in lane " + lane, read(x, 0, lane, 0), 51);
                x.item(0, lane, 0, 52 + Long.MIN_VALUE);
                e.outside("the highest bit of all is cut in lane " + lane, read(x, 0, lane, 0), 52);
            }
        }
    }

    private static void castOfEachLane() {
        e.sentence("CAST -12 (of SHEETS another LANE)");
        for (int lane = 0; lane < 4; lane++) {
            RobbedOnce x = withSheet(lane, 1);
            for (int other = 0; other < 4; other++) {
                if (other == lane) {
                    e.inside("item of " + lane, x.item(0, lane, 0, 60), 1);
                    e.inside("film to " + lane, x.film(0, 1, 0, lane, 0), 1);
                    e.inside("grown by " + lane, x.grown(0, 0, lane, 0, 1, 2), 4);
                } else {
                    e.at("item of " + lane + " as of " + other, x.item(0, other, 0, 60), RobbedOnce.CAST);
                    e.at("film to " + lane + " as of " + other, x.film(0, 1, 0, other, 0), RobbedOnce.CAST);
                    e.at("grown by " + lane + " as of " + other, x.grown(0, 0, other, 0, 1, 2), RobbedOnce.CAST);
                }
            }
            e.outside("item of " + lane + " as of 4", x.item(0, 4, 0, 60), RobbedOnce.BAD);
            e.outside("it stays", read(x, 0, lane, 0), 6);
        }
    }

    private static RobbedOnce withTwo(int lane) {
        RobbedOnce x = Due.townOf("10;p05=4");
        x.sheet(0, lane, 4);
        x.sheet(1, lane, 3);
        write(x, 0, lane, 10, 11, 12, 13);
        write(x, 1, lane, 20, 21, 22);
        return x;
    }

    private static void copyMany() {
        e.sentence("n items of a SHEET from i on come to another one (or the same) from j on");
        RobbedOnce x = withTwo(3);
        e.at("0", x.copy(0, 0, 1, 0, 0), 0);
        e.at("nothing came", row(x, 1, 3, 3), 202122);
        e.inside("1", x.copy(0, 1, 1, 1, 1), 1);
        e.inside("one came", row(x, 1, 3, 3), 201122);
        e.at("3, all that have room", x.copy(0, 1, 1, 0, 3), 3);
        e.at("three came", row(x, 1, 3, 3), 111213);
        e.outside("4", x.copy(0, 0, 1, 0, 4), RobbedOnce.INDEX);
        e.at("0 behind the last", x.copy(0, 4, 1, 3, 0), 0);
        e.outside("the first sheet stays", row(x, 0, 3, 4), 10111213);
        e.at("the same, all", x.copy(0, 0, 0, 0, 4), 4);
        e.at("it stays", row(x, 0, 3, 4), 10111213);
        x.sheet(2, 3, 24);
        x.sheet(3, 3, 24);
        e.at("24", x.copy(2, 0, 3, 0, 24), 24);
        e.outside("25", x.copy(2, 0, 3, 0, 25), RobbedOnce.INDEX);
    }

    private static void copyTakenAhead() {
        e.sentence("as if all were taken ahead: n.");
        for (int lane = 0; lane < 4; lane++) {
            RobbedOnce up = withTwo(lane);
            e.at("up by one", up.copy(0, 0, 0, 1, 3), 3);
            e.at("up by one", row(up, 0, lane, 4), 10101112);
            RobbedOnce down = withTwo(lane);
            e.at("down by one", down.copy(0, 1, 0, 0, 3), 3);
            e.at("down by one", row(down, 0, lane, 4), 11121313);
            RobbedOnce apart = withTwo(lane);
            e.inside("two apart", apart.copy(0, 0, 0, 2, 2), 2);
            e.inside("two apart", row(apart, 0, lane, 4), 10111011);
            RobbedOnce beyond = withTwo(lane);
            e.outside("up by one, beyond", beyond.copy(0, 0, 0, 1, 4), RobbedOnce.INDEX);
            e.outside("it stays", row(beyond, 0, lane, 4), 10111213);
        }
    }

    private static void copyNull() {
        e.sentence("NULL (either)");
        RobbedOnce x = withTwo(0);
        e.at("from nothing", x.copy(2, 0, 0, 0, 1), RobbedOnce.NULL);
        e.at("to nothing", x.copy(0, 0, 2, 0, 1), RobbedOnce.NULL);
        e.at("none to nothing", x.copy(0, 0, 2, 0, 0), RobbedOnce.NULL);
        e.outside("from nothing to nothing", x.copy(2, 0, 3, 0, 1), RobbedOnce.NULL);
        e.inside("neither", x.copy(0, 0, 1, 0, 1), 1);
        x.sheet(2, 0, 0);
        e.inside("of no items is not nothing", x.copy(2, 0, 0, 0, 0), 0);
    }

    private static void copyCast() {
        e.sentence("CAST: of unlike LANES");
        RobbedOnce x = Due.townOf("10;p05");
        for (int lane = 0; lane < 4; lane++) {
            x.sheet(lane, lane, 2);
        }
        for (int from = 0; from < 4; from++) {
            for (int to = 0; to < 4; to++) {
                if (from == to) {
                    e.inside("the same", x.copy(from, 0, to, 0, 2), 2);
                } else {
                    e.at("lanes " + from + " and " + to, x.copy(from, 0, to, 0, 2), RobbedOnce.CAST);
                    e.outside("none of lanes " + from + " and " + to, x.copy(from, 0, to, 0, 0), RobbedOnce.CAST);
                }
            }
        }
        x.sheet(0, 2, 2);
        e.inside("another sheet of the same lane", x.copy(0, 0, 2, 0, 2), 2);
    }

    private static void copyIndex() {
        e.sentence("NULL (either); CAST: of unlike LANES; INDEX.");
        RobbedOnce x = withTwo(1);
        int[][] right = {{3, 2, 1}, {1, 0, 3}, {4, 3, 0}, {0, 0, 3}};
        for (int[] r : right) {
            e.at("from " + r[0] + " to " + r[1] + ", " + r[2], x.copy(0, r[0], 1, r[1], r[2]), r[2]);
        }
        e.inside("from 2 to 1, 1", x.copy(0, 2, 1, 1, 1), 1);
        long ahead = row(x, 1, 1, 3);
        int most = Integer.MAX_VALUE;
        int least = Integer.MIN_VALUE;
        int[][] wrong = {{-1, 0, 1}, {0, -1, 1}, {4, 0, 1}, {0, 3, 1}, {2, 0, 3}, {0, 1, 3}, {5, 0, 0}, {0, 4, 0}, {-1, 0, 0},
            {0, -1, 0}, {0, 0, -1}, {1, 1, -1}, {most, 0, 1}, {0, most, 1}, {0, 0, most}, {1, 0, most}, {0, 1, most},
            {most, most, most}, {least, 0, 1}, {0, least, 1}, {0, 0, least}, {least, least, least}, {most, 0, least}};
        for (int[] w : wrong) {
            e.outside("from " + w[0] + " to " + w[1] + ", " + w[2], x.copy(0, w[0], 1, w[1], w[2]), RobbedOnce.INDEX);
        }
        e.outside("nothing came", row(x, 1, 1, 3), ahead);
    }
}
