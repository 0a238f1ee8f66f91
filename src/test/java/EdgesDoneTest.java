import java.math.BigInteger;

/** The boundaries of promises 10 to 15, and of UNDONE and DRIFT. */
public final class EdgesDoneTest {
    private static final Edges e = new Edges();
    private static final BigInteger BITS_31 = BigInteger.ONE.shiftLeft(31);

    public static void main(String[] args) {
        nights();
        nightsFull();
        show();
        showNot();
        teach();
        teachNot();
        drift();
        driftFull();
        driftOfSworn();
        undoNone();
        undoLeft();
        seedBelow();
        eightKnown();
        asAhead();
        whateverWasTold();
        leaveNothing();
        firstDraw();
        lowestBits();
        divided();
        leftOverByHowMany();
        leftOverByTwo();
        nobody();
        eachNight();
        e.end();
    }

    /** The seed from which the first draw is the one told. */
    private static int seedFor(long draw) {
        BigInteger factor = BigInteger.valueOf(1103515245);
        return BigInteger.valueOf(draw - 12345).multiply(factor.modInverse(BITS_31)).mod(BITS_31).intValueExact();
    }

    private static int drawOf(RobbedOnce x) {
        int draw = x.seed(0);
        x.seed(draw);
        return draw;
    }

    /** 249 calls, and what is left of it night by night. */
    private static RobbedOnce inNight(int night) {
        RobbedOnce x = Due.townOf("10;c00");
        for (int left = night; left > 0; left -= Math.min(40, left)) {
            x.nights(Math.min(40, left));
        }
        return x;
    }

    private static void nights() {
        e.sentence("n NIGHTS (1 .. 40; each by itself may be UNDONE): who is SWORN then (a set). BAD");
        RobbedOnce x = Due.townOf("10;p00;50");
        e.outside("0", x.nights(0), RobbedOnce.BAD);
        e.outside("-1", x.nights(-1), RobbedOnce.BAD);
        e.outside("41", x.nights(41), RobbedOnce.BAD);
        e.outside("none went by", x.count(2), 0);
        e.outside("none may be undone", x.count(7), 0);
        e.at("1", x.nights(1), 0);
        e.at("it may be undone", x.count(7), 1);
        e.inside("2", x.nights(2), 0);
        e.inside("each may be undone", x.count(7), 3);
        e.inside("39", x.nights(39), 0);
        e.at("40", x.nights(40), 0);
        e.at("the night", x.count(2), 82);
        RobbedOnce six = Due.townOf("0;p00,p00,p00,p00,p00,p00;90");
        e.inside("five are sworn", six.nights(5), 31);
        e.at("all are sworn", six.nights(1), 63);
        e.at("still", six.nights(40), 63);
    }

    private static void nightsFull() {
        e.sentence("FULL: the NIGHT would be above 9999.");
        RobbedOnce x = inNight(9959);
        e.inside("40 nights to 9999", x.nights(40), 0);
        e.at("the last night", x.count(2), 9999);
        e.outside("one more", x.nights(1), RobbedOnce.FULL);
        e.outside("40 more", x.nights(40), RobbedOnce.FULL);
        e.outside("it stays", x.count(2), 9999);
        e.outside("what may be undone stays", x.count(7), 8);
        e.outside("41 are bad first", x.nights(41), RobbedOnce.BAD);
        e.at("foretold goes beyond", x.ahead(0, 99), 99);
        x.undo();
        e.outside("two from 9998", x.nights(2), RobbedOnce.FULL);
        e.at("one from 9998", x.nights(1), 0);
        RobbedOnce y = inNight(9960);
        e.outside("40 nights to 10000", y.nights(40), RobbedOnce.FULL);
        e.outside("none of them went by", y.count(2), 9960);
        e.inside("38 nights to 9998", y.nights(38), 0);
        e.at("one to 9999", y.nights(1), 0);
    }

    private static void show() {
        e.sentence("SHOWN (1), HIDDEN (0): who SHOWS then (a set). BAD");
        RobbedOnce x = Due.townOf("10;p00,p00,p00,p00,p00,p00x");
        e.at("shown", x.show(5, 1), 63);
        e.at("hidden", x.show(0, 0), 62);
        e.inside("hidden", x.show(4, 0), 46);
        e.outside("2", x.show(1, 2), RobbedOnce.BAD);
        e.outside("-1", x.show(1, -1), RobbedOnce.BAD);
        e.outside("apprentice 6", x.show(6, 0), RobbedOnce.BAD);
        e.outside("apprentice -1", x.show(-1, 0), RobbedOnce.BAD);
        RobbedOnce y = Due.townOf("10;p00");
        e.at("nobody shows", y.show(0, 0), 0);
        e.outside("there is one", y.show(1, 0), RobbedOnce.BAD);
    }

    private static void showNot() {
        e.sentence("NOT: it is so, it is SWORN.");
        RobbedOnce x = Due.townOf("5;p00=9,p10,p20x;90");
        e.at("shown already", x.show(1, 1), RobbedOnce.NOT);
        e.at("hidden already", x.show(2, 0), RobbedOnce.NOT);
        e.inside("not so", x.show(1, 0), 1);
        e.outside("what may be undone", x.count(7), 1);
        x.nights(1);
        e.at("sworn, shown", x.show(0, 1), RobbedOnce.NOT);
        e.at("sworn, hidden", x.show(0, 0), RobbedOnce.NOT);
        e.outside("it shows as it did", x.of(0, 4), 1);
        e.outside("what may be undone", x.count(7), 2);
        x.undo();
        e.inside("sworn no more", x.show(0, 0), 0);
    }

    private static void teach() {
        e.sentence("TAUGHT (0 .. 9): how CAREFUL it was. BAD");
        RobbedOnce x = Due.townOf("5;p05,p09");
        e.at("0", x.teach(0, 0), 5);
        e.inside("1", x.teach(0, 1), 0);
        e.inside("8", x.teach(0, 8), 1);
        e.at("9", x.teach(0, 9), 8);
        e.outside("10", x.teach(0, 10), RobbedOnce.BAD);
        e.outside("-1", x.teach(0, -1), RobbedOnce.BAD);
        e.outside("it stays", x.of(0, 3), 9);
        e.at("the last apprentice", x.teach(1, 0), 9);
        e.outside("one behind", x.teach(2, 0), RobbedOnce.BAD);
        e.outside("one ahead", x.teach(-1, 0), RobbedOnce.BAD);
    }

    private static void teachNot() {
        e.sentence("TAUGHT (0 .. 9): how CAREFUL it was. BAD; NOT: it is so.");
        RobbedOnce x = Due.townOf("5;p05=5;90");
        e.at("it is so", x.teach(0, 5), RobbedOnce.NOT);
        e.at("nothing to be undone", x.count(7), 0);
        e.inside("one less", x.teach(0, 4), 5);
        e.inside("one more", x.teach(0, 5), 4);
        e.inside("sworn", x.nights(1), 1);
        e.at("a sworn one, it is so", x.teach(0, 5), RobbedOnce.NOT);
        e.inside("a sworn one, it is not so", x.teach(0, 6), 5);
        e.outside("bad", x.teach(0, 10), RobbedOnce.BAD);
    }

    private static void drift() {
        e.sentence("A DRIFT of n NIGHTS (1 .. 40; each with who SHOWS one that may be UNDONE)");
        RobbedOnce x = Due.townOf("10;p00,p00");
        e.outside("0", x.drift(0), RobbedOnce.BAD);
        e.outside("-1", x.drift(-1), RobbedOnce.BAD);
        e.outside("41", x.drift(41), RobbedOnce.BAD);
        e.outside("the draw stays", drawOf(x), 1);
        e.outside("none went by", x.count(2), 0);
        x.seed(seedFor(128));
        e.at("1", x.drift(1), 0);
        e.at("who shows", x.count(5), 2);
        e.at("the night and who shows are one", x.count(7), 1);
        e.at("undone", x.undo(), 0);
        e.at("who shows", x.count(5), 3);
        e.inside("2", x.drift(2), 0);
        e.inside("each may be undone", x.count(7), 2);
        e.inside("39", x.drift(39), 0);
        e.at("40", x.drift(40), 0);
        e.at("the night", x.count(2), 81);
        e.at("eight may be undone", x.count(7), 8);
    }

    private static void driftFull() {
        e.sentence("who is SWORN then (a set). BAD; FULL: likewise.");
        RobbedOnce x = inNight(9959);
        e.inside("40 nights to 9999", x.drift(40), 0);
        e.at("the last night", x.count(2), 9999);
        x.seed(77);
        e.outside("one more", x.drift(1), RobbedOnce.FULL);
        e.outside("41 are bad first", x.drift(41), RobbedOnce.BAD);
        e.outside("the draw stays", x.seed(1), 77);
        RobbedOnce y = inNight(9960);
        e.outside("40 nights to 10000", y.drift(40), RobbedOnce.FULL);
        e.outside("none of them went by", y.count(2), 9960);
        e.outside("the draw stays", y.seed(1), 1);
        e.at("39 nights to 9999", y.drift(39), 0);
    }

    private static void driftOfSworn() {
        e.sentence("(SWORN ones may be drawn, too.)");
        RobbedOnce x = Due.townOf("5;p00=9,p10;90");
        e.inside("one is sworn", x.nights(1), 1);
        x.seed(seedFor(128));
        x.drift(1);
        e.at("it is drawn, and hides", x.count(5), 2);
        x.seed(seedFor(256));
        x.drift(1);
        e.at("it is drawn, and shows", x.count(5), 3);
        e.at("it is sworn still", x.count(4), 1);
        x.seed(seedFor(65536 + 128));
        x.drift(1);
        e.outside("the other one is drawn", x.count(5), 1);
    }

    private static void undoNone() {
        e.sentence("NONE: none is known.");
        RobbedOnce x = Due.townOf("5;p00");
        e.outside("none", x.undo(), RobbedOnce.NONE);
        x.nights(1);
        e.at("one", x.undo(), 0);
        e.outside("none", x.undo(), RobbedOnce.NONE);
        x.nights(2);
        e.inside("two", x.undo(), 1);
        e.at("one", x.undo(), 0);
        e.outside("none", x.undo(), RobbedOnce.NONE);
    }

    private static void undoLeft() {
        e.sentence("UNDONE: how many more may be.");
        RobbedOnce x = Due.townOf("5;p00");
        x.nights(8);
        e.at("of 8", x.undo(), 7);
        e.inside("of 7", x.undo(), 6);
        x.nights(1);
        e.inside("of 7 again", x.undo(), 6);
        x.nights(40);
        e.outside("of 8 at most", x.undo(), 7);
    }

    private static void seedBelow() {
        e.sentence("THE DRAW becomes v: what it was. BAD: below 0.");
        RobbedOnce x = new RobbedOnce();
        e.at("0", x.seed(0), 1);
        e.outside("-1", x.seed(-1), RobbedOnce.BAD);
        e.outside("the least int", x.seed(Integer.MIN_VALUE), RobbedOnce.BAD);
        e.inside("1", x.seed(1), 0);
        e.inside("the greatest but one", x.seed(Integer.MAX_VALUE - 1), 1);
        e.at("the greatest", x.seed(Integer.MAX_VALUE), Integer.MAX_VALUE - 1);
        e.at("it was", x.seed(5), Integer.MAX_VALUE);
        e.inside("it may not be undone", x.count(7), 0);
    }

    private static void eightKnown() {
        e.sentence("(8 are known, older ones lost)");
        for (int n = 7; n <= 10; n++) {
            RobbedOnce x = Due.townOf("5;p05");
            for (int i = 0; i < n; i++) {
                x.teach(0, (6 + i) % 10);
            }
            int known = Math.min(8, n);
            for (int left = known - 1; left >= 0; left--) {
                int answer = x.undo();
                int careful = x.of(0, 3);
                int was = (5 + n - known + left) % 10;
                if (n < 8) {
                    e.inside("undone of " + n, answer, left);
                    e.inside("as ahead of it", careful, was);
                } else if (n == 8) {
                    e.at("undone of 8", answer, left);
                    e.at("as ahead of it", careful, was);
                } else {
                    e.outside("undone of " + n, answer, left);
                    e.outside("as ahead of it", careful, was);
                }
            }
            e.outside("older ones are lost", x.undo(), RobbedOnce.NONE);
        }
    }

    private static void asAhead() {
        e.sentence("THINGS, how DEAR they are, who SHOWS, how CAREFUL all are, who is SWORN, the NIGHT, THE DRAW are as ahead of it");
        RobbedOnce x = Due.townOf("9;p35=8,d05=9,c02=3;53,50");
        x.seed(4);
        e.inside("a night", x.nights(1), 2);
        e.inside("robbed of a thing of sort 3", x.of(0, 1), 0);
        e.at("undone", x.undo(), 0);
        e.at("its sort", x.of(0, 1), 3);
        e.at("how dear", x.of(0, 2), 8);
        e.at("who is sworn", x.count(4), 0);
        e.at("the night", x.count(2), 0);
        x.drift(1);
        e.at("a drift undone", x.undo(), 0);
        e.at("the draw", drawOf(x), 4);
        e.at("who shows", x.count(5), 7);
        x.teach(2, 6);
        x.show(2, 0);
        e.inside("hidden undone", x.undo(), 1);
        e.inside("who shows", x.count(5), 7);
        e.inside("as careful as taught", x.of(2, 3), 6);
        e.at("taught undone", x.undo(), 0);
        e.at("how careful", x.of(2, 3), 2);
        e.outside("nothing more", x.undo(), RobbedOnce.NONE);
        e.outside("how careful", x.of(2, 3), 2);
    }

    private static void whateverWasTold() {
        e.sentence("whatever was told since");
        RobbedOnce x = Due.townOf("9;p00");
        x.seed(40);
        x.teach(0, 1);
        x.seed(41);
        x.bar(50);
        x.sheet(0, 0, 3);
        x.type('9');
        e.at("undone", x.undo(), 0);
        e.at("the draw is as ahead of it", drawOf(x), 40);
        e.inside("how careful", x.of(0, 3), 0);
        e.outside("the bar is not named", x.count(3), 50);
        e.outside("nor are sheets", x.drop(0), 3);
        e.outside("nor is the tape", x.type(';'), 2);
    }

    private static void leaveNothing() {
        e.sentence("a TOWN, a new APPRENTICE, THIEF leave nothing to be UNDONE");
        RobbedOnce x = Due.townOf("9;p00");
        x.nights(8);
        e.outside("a refused apprentice leaves all", x.apprentice(5, 0, 0), RobbedOnce.BAD);
        e.outside("a refused thief leaves all", x.thief(10, 0), RobbedOnce.BAD);
        e.outside("a fault leaves all", Due.readInto(x, "9;"), -22);
        e.outside("the bar leaves all", x.bar(3), 9);
        e.outside("the draw leaves all", x.seed(3), 1);
        e.outside("eight", x.count(7), 8);
        x.apprentice(0, 0, 0);
        e.at("an apprentice", x.undo(), RobbedOnce.NONE);
        x.nights(1);
        x.thief(0, 0);
        e.at("a thief", x.undo(), RobbedOnce.NONE);
        x.nights(1);
        Due.readInto(x, "9;p00");
        e.at("a town", x.undo(), RobbedOnce.NONE);
        x.nights(1);
        e.inside("then it begins anew", x.undo(), 0);
    }

    private static void firstDraw() {
        e.sentence("THE DRAW is a number of 31 bits (1 at first)");
        RobbedOnce x = new RobbedOnce();
        e.at("at first", drawOf(x), 1);
        x.seed(Integer.MAX_VALUE);
        e.at("31 bits", drawOf(x), Integer.MAX_VALUE);
        x.seed(seedFor(Integer.MAX_VALUE));
        x.drift(1);
        e.at("drawn, 31 bits", drawOf(x), Integer.MAX_VALUE);
        x.seed(seedFor(0));
        x.drift(1);
        e.at("drawn, 0", drawOf(x), 0);
        x.seed(seedFor(1L << 30));
        x.drift(1);
        e.inside("drawn, the highest bit alone", drawOf(x), 1L << 30);
        e.outside("a bit more", x.seed(Integer.MIN_VALUE), RobbedOnce.BAD);
    }

    private static void lowestBits() {
        e.sentence("the lowest 31 bits of itself times 1103515245 and 12345 more");
        int[] seeds = {0, 1, 2, 3, 65535, Integer.MAX_VALUE - 1, Integer.MAX_VALUE};
        for (int seed : seeds) {
            RobbedOnce x = new RobbedOnce();
            x.seed(seed);
            x.drift(1);
            BigInteger exact = BigInteger.valueOf(seed).multiply(BigInteger.valueOf(1103515245)).add(BigInteger.valueOf(12345));
            int want = exact.mod(BITS_31).intValueExact();
            if (seed == 0) {
                e.at("from 0", drawOf(x), 12345);
            } else if (exact.compareTo(BITS_31) < 0) {
                e.inside("no bit is cut from " + seed, drawOf(x), exact.intValueExact());
            } else {
                e.outside("bits are cut from " + seed, drawOf(x), want);
            }
        }
    }

    private static void divided() {
        e.sentence("What is divided is cut.");
        e.inside("one less", hiddenBy("9;p00,p00", 65535), 0);
        e.at("no rest", shownBy("9;p00x,p00x", 65536), 1);
        e.inside("a rest of 128", hiddenBy("9;p00,p00", 65536 + 128), 1);
        e.inside("the greatest rest", hiddenBy("9;p00,p00", 2 * 65536 - 1), 1);
        e.outside("the next one", shownBy("9;p00x,p00x", 2 * 65536), 0);
    }

    private static void leftOverByHowMany() {
        e.sentence("the APPRENTICE that is it by 65536, left over by how many there are");
        for (int many = 1; many <= 6; many++) {
            StringBuilder text = new StringBuilder("9;p00");
            for (int a = 1; a < many; a++) {
                text.append(",p00");
            }
            // What is a multiple of 65536 by 128 is even, and shows; so it is hidden by 128 more, and by 1 less.
            e.at("0 of " + many, hiddenBy(text.toString(), 128), 0);
            e.inside("65535 is 0 still, of " + many, hiddenBy(text.toString(), 65535), 0);
            e.at("65536 is 1, of " + many, hiddenBy(text.toString(), 65536 + 128), 1 % many);
            String hiding = text.toString().replace("p00", "p00x");
            e.at("65536 itself, of " + many, shownBy(hiding, 65536), 1 % many);
            e.at("the least of the last of " + many, shownBy(hiding, 65536L * (many - 1)), many - 1);
            e.outside("the least behind the last of " + many, shownBy(hiding, 65536L * many), 0);
            e.inside("the last of " + many, hiddenBy(text.toString(), 65536L * many - 1), many - 1);
            e.outside("behind the last of " + many, hiddenBy(text.toString(), 65536L * many + 128), 0);
            e.outside("the greatest draw of " + many, hiddenBy(text.toString(), Integer.MAX_VALUE), 32767 % many);
        }
    }

    private static int hiddenBy(String text, long draw) {
        RobbedOnce x = Due.townOf(text);
        int all = x.count(5);
        x.seed(seedFor(draw));
        x.drift(1);
        int hidden = all & ~x.count(5);
        return Integer.bitCount(hidden) == 1 ? Integer.numberOfTrailingZeros(hidden) : -1;
    }

    private static int shownBy(String text, long draw) {
        RobbedOnce x = Due.townOf(text);
        x.seed(seedFor(draw));
        x.drift(1);
        return Integer.bitCount(x.count(5)) == 1 ? Integer.numberOfTrailingZeros(x.count(5)) : -1;
    }

    private static void leftOverByTwo() {
        e.sentence("SHOWS its THING, if it by 128, left over by 2, is 0, else HIDES it");
        int[] draws = {0, 127, 128, 255, 256, 383, 384};
        int[] shows = {1, 1, 0, 0, 1, 1, 0};
        for (int i = 0; i < draws.length; i++) {
            RobbedOnce x = Due.townOf("9;p00");
            RobbedOnce y = Due.townOf("9;p00x");
            x.seed(seedFor(draws[i]));
            y.seed(seedFor(draws[i]));
            x.drift(1);
            y.drift(1);
            if (draws[i] == 127 || draws[i] == 128) {
                e.at("by " + draws[i] + ", who showed", x.count(5), shows[i]);
                e.at("by " + draws[i] + ", who hid", y.count(5), shows[i]);
            } else if (draws[i] < 127) {
                e.inside("by " + draws[i] + ", who showed", x.count(5), shows[i]);
                e.inside("by " + draws[i] + ", who hid", y.count(5), shows[i]);
            } else {
                e.outside("by " + draws[i] + ", who showed", x.count(5), shows[i]);
                e.outside("by " + draws[i] + ", who hid", y.count(5), shows[i]);
            }
        }
    }

    private static void nobody() {
        e.sentence("(nobody, if there are none)");
        RobbedOnce x = new RobbedOnce();
        e.at("nobody", x.drift(1), 0);
        e.at("nobody shows", x.count(5), 0);
        e.inside("the draw goes on", drawOf(x), 1103527590);
        e.inside("the night goes on", x.count(2), 1);
        x.apprentice(0, 0, 0);
        x.seed(seedFor(128));
        x.drift(1);
        e.outside("there is one", x.count(5), 0);
    }

    private static void eachNight() {
        e.sentence("ahead of each NIGHT of a DRIFT it becomes");
        RobbedOnce x = Due.townOf("5;p00=9,p00=9;90");
        x.seed(seedFor(128));
        e.at("the first hides ahead of the night", x.drift(1), 2);
        RobbedOnce y = Due.townOf("5;p00=9x,p10;90");
        y.seed(seedFor(256));
        e.inside("the first shows ahead of the night", y.drift(1), 1);
        RobbedOnce z = new RobbedOnce();
        z.drift(3);
        e.inside("three draws for three nights", drawOf(z), 662824084);
        z.nights(1);
        e.outside("none for a night that is no drift", drawOf(z), 662824084);
    }
}
