/** The boundaries of section 1 and of promises 1 to 7 and 9. */
public final class EdgesTownTest {
    private static final Edges e = new Edges();

    public static void main(String[] args) {
        newObject();
        sets();
        apprentices();
        apprenticesFull();
        kinds();
        sorts();
        dearAtFirst();
        careful();
        showAtFirst();
        swornOrNot();
        thieves();
        thievesFull();
        skill();
        wants();
        barRange();
        barWas();
        nightAtFirst();
        plain();
        fond();
        careless();
        doting();
        rich();
        showsAndIsNotSworn();
        carefulByNoMore();
        sortThatItWants();
        dearest();
        rising();
        notRobbedAgain();
        asMuchAsTheBar();
        nextSort();
        ninetyNineAtMost();
        neitherSwornNorRobbed();
        nextNight();
        ofWhat();
        oneOrNought();
        mayRobSet();
        atWhat();
        letters();
        tapeLength();
        countWhat();
        showsAsTheyDid();
        dearTogether();
        e.end();
    }

    private static RobbedOnce withApprentices(int n) {
        RobbedOnce x = new RobbedOnce();
        for (int a = 0; a < n; a++) {
            x.apprentice(0, 0, 0);
        }
        return x;
    }

    private static RobbedOnce withThieves(int n) {
        RobbedOnce x = new RobbedOnce();
        for (int t = 0; t < n; t++) {
            x.thief(0, 0);
        }
        return x;
    }

    private static RobbedOnce afterNights(String text, int n) {
        RobbedOnce x = Due.townOf(text);
        for (int i = 0; i < n; i++) {
            x.nights(1);
        }
        return x;
    }

    private static void newObject() {
        e.sentence("`RobbedOnce()`: A town, nobody.");
        RobbedOnce x = new RobbedOnce();
        e.at("no apprentice", x.count(0), 0);
        e.at("no thief", x.count(1), 0);
        e.at("nothing may be undone", x.count(7), 0);
        e.outside("of nobody", x.of(0, 0), RobbedOnce.BAD);
        e.outside("at nobody", x.at(0, 0), RobbedOnce.BAD);
        x.apprentice(0, 0, 0);
        e.inside("one", x.count(0), 1);
        e.at("another object", new RobbedOnce().count(0), 0);
    }

    private static void sets() {
        e.sentence("Sets are bits.");
        RobbedOnce x = Due.townOf("0;p00x,p00x,p00x,p00x,p00x,p00x;90");
        e.outside("none", x.count(5), 0);
        e.at("the first alone", x.show(0, 1), 1);
        x.show(0, 0);
        e.inside("the fifth alone", x.show(4, 1), 16);
        x.show(4, 0);
        e.at("the sixth alone", x.show(5, 1), 32);
        e.at("the sixth alone", x.at(0, 2), 32);
        e.at("the sixth alone", x.then(1), 32);
        RobbedOnce y = Due.townOf("0;p05,p00;04,04,04,54");
        e.at("the fourth thief alone", y.of(0, 6), 8);
        e.at("all four", y.of(1, 6), 15);
    }

    private static void apprentices() {
        e.sentence("APPRENTICES 0 .. 5, as they come");
        RobbedOnce x = new RobbedOnce();
        e.outside("of(0, 0), nobody came", x.of(0, 0), RobbedOnce.BAD);
        e.at("the first", x.apprentice(1, 2, 3), 0);
        e.inside("the second", x.apprentice(2, 3, 4), 1);
        e.outside("of(2, 0), two came", x.of(2, 0), RobbedOnce.BAD);
        e.outside("of(-1, 0)", x.of(-1, 0), RobbedOnce.BAD);
        RobbedOnce six = withApprentices(4);
        e.inside("the fifth", six.apprentice(3, 0, 0), 4);
        e.outside("of(5, 0), five came", six.of(5, 0), RobbedOnce.BAD);
        e.at("the sixth", six.apprentice(4, 0, 0), 5);
        e.at("of(5, 0)", six.of(5, 0), 4);
        e.inside("of(4, 0)", six.of(4, 0), 3);
        e.outside("of(6, 0)", six.of(6, 0), RobbedOnce.BAD);
    }

    private static void apprenticesFull() {
        e.sentence("An APPRENTICE: the number. BAD; FULL: 6.");
        e.inside("behind 4", withApprentices(4).apprentice(0, 0, 0), 4);
        e.at("behind 5", withApprentices(5).apprentice(0, 0, 0), 5);
        e.outside("behind 6", withApprentices(6).apprentice(0, 0, 0), RobbedOnce.FULL);
        RobbedOnce x = withApprentices(6);
        x.apprentice(0, 0, 0);
        e.outside("there are 6 still", x.count(0), 6);
    }

    private static void kinds() {
        e.sentence("4 RICH (below CARELESS)");
        int[] kinds = {0, 1, 3, 4};
        for (int kind : kinds) {
            RobbedOnce x = new RobbedOnce();
            int came = x.apprentice(kind, 0, 0);
            if (kind == 0 || kind == 4) {
                e.at("kind " + kind, came, 0);
                e.at("of", x.of(0, 0), kind);
            } else {
                e.inside("kind " + kind, came, 0);
                e.inside("of", x.of(0, 0), kind);
            }
        }
        e.outside("kind -1", new RobbedOnce().apprentice(-1, 0, 0), RobbedOnce.BAD);
        e.outside("kind 5", new RobbedOnce().apprentice(5, 0, 0), RobbedOnce.BAD);
    }

    private static void sorts() {
        e.sentence("have a THING of a SORT (0 .. 3)");
        e.at("sort 0", new RobbedOnce().apprentice(0, 0, 0), 0);
        e.inside("sort 1", new RobbedOnce().apprentice(0, 1, 0), 0);
        e.inside("sort 2", new RobbedOnce().apprentice(0, 2, 0), 0);
        RobbedOnce x = new RobbedOnce();
        e.at("sort 3", x.apprentice(0, 3, 0), 0);
        e.at("of", x.of(0, 1), 3);
        e.outside("sort 4", x.apprentice(0, 4, 0), RobbedOnce.BAD);
        e.outside("sort -1", x.apprentice(0, -1, 0), RobbedOnce.BAD);
        e.outside("nobody more came", x.count(0), 1);
    }

    private static void dearAtFirst() {
        e.sentence("that is DEAR by 0 .. 99 (0 at first)");
        e.at("at first", withApprentices(1).of(0, 2), 0);
        e.inside("a night later", afterNights("10;p00", 1).of(0, 2), 2);
        e.inside("98 by a text", Due.townOf("10;p00=98").of(0, 2), 98);
        e.at("99 by a text", Due.townOf("10;p00=99").of(0, 2), 99);
        e.at("99 a night later", afterNights("10;p00=99", 1).of(0, 2), 99);
        e.outside("100 by a text", Due.readInto(new RobbedOnce(), "10;p00=100"), -29);
        RobbedOnce x = Due.townOf("10;p00=7,p00=98,f11=99x");
        Due.readInto(x, "10;p00=5");
        x.apprentice(0, 0, 0);
        e.at("at first, where another one was ahead of a town", x.of(1, 2), 0);
        x.image();
        x.apprentice(0, 0, 0);
        x.nights(9);
        x.restore();
        x.apprentice(0, 0, 0);
        e.at("at first, where another one was ahead of an image", x.of(2, 2), 0);
    }

    private static void careful() {
        e.sentence("are CAREFUL by 0 .. 9");
        int[] numbers = {0, 1, 8, 9};
        for (int n : numbers) {
            RobbedOnce x = new RobbedOnce();
            x.apprentice(0, 0, n);
            if (n == 0 || n == 9) {
                e.at("by " + n, x.of(0, 3), n);
            } else {
                e.inside("by " + n, x.of(0, 3), n);
            }
        }
        e.outside("by -1", new RobbedOnce().apprentice(0, 0, -1), RobbedOnce.BAD);
        e.outside("by 10", new RobbedOnce().apprentice(0, 0, 10), RobbedOnce.BAD);
    }

    private static void showAtFirst() {
        e.sentence("they SHOW it (at first) or HIDE it");
        RobbedOnce x = withApprentices(1);
        e.at("at first", x.of(0, 4), 1);
        x.show(0, 0);
        e.inside("hidden", x.of(0, 4), 0);
        x.apprentice(0, 0, 0);
        e.at("who comes later shows", x.count(5), 2);
        e.outside("neither", x.show(0, 2), RobbedOnce.BAD);
        e.outside("neither", x.show(0, -1), RobbedOnce.BAD);
    }

    private static void swornOrNot() {
        e.sentence("they are SWORN in, or not.");
        e.at("at first", withApprentices(1).of(0, 5), 0);
        e.inside("robbed of enough", afterNights("5;p00=5;00", 1).of(0, 5), 1);
        e.outside("robbed of too little", afterNights("5;p00=4;00", 1).of(0, 5), 0);
    }

    private static void thieves() {
        e.sentence("THIEVES 0 .. 3, as they come");
        RobbedOnce x = new RobbedOnce();
        e.outside("at(0, 0), nobody came", x.at(0, 0), RobbedOnce.BAD);
        e.at("the first", x.thief(1, 2), 0);
        e.outside("at(1, 0), one came", x.at(1, 0), RobbedOnce.BAD);
        e.inside("the second", x.thief(2, 3), 1);
        e.inside("the third", x.thief(3, 4), 2);
        e.outside("at(3, 0), three came", x.at(3, 0), RobbedOnce.BAD);
        e.at("the fourth", x.thief(4, 1), 3);
        e.at("at(3, 0)", x.at(3, 0), 4);
        e.inside("at(2, 0)", x.at(2, 0), 3);
        e.outside("at(4, 0)", x.at(4, 0), RobbedOnce.BAD);
        e.outside("at(-1, 0)", x.at(-1, 0), RobbedOnce.BAD);
    }

    private static void thievesFull() {
        e.sentence("A THIEF: the number. BAD; FULL: 4.");
        e.inside("behind 2", withThieves(2).thief(0, 0), 2);
        e.at("behind 3", withThieves(3).thief(0, 0), 3);
        e.outside("behind 4", withThieves(4).thief(0, 0), RobbedOnce.FULL);
        RobbedOnce x = withThieves(4);
        x.thief(0, 0);
        e.outside("there are 4 still", x.count(1), 4);
    }

    private static void skill() {
        e.sentence("have SKILL (0 .. 9)");
        int[] numbers = {0, 1, 8, 9};
        for (int n : numbers) {
            RobbedOnce x = new RobbedOnce();
            x.thief(n, 0);
            if (n == 0 || n == 9) {
                e.at("by " + n, x.at(0, 0), n);
            } else {
                e.inside("by " + n, x.at(0, 0), n);
            }
        }
        e.outside("by -1", new RobbedOnce().thief(-1, 0), RobbedOnce.BAD);
        e.outside("by 10", new RobbedOnce().thief(10, 0), RobbedOnce.BAD);
    }

    private static void wants() {
        e.sentence("WANT a SORT (0 .. 3), or any (4)");
        String boys = "9;p00,p10,p20,p30;9";
        e.at("0", Due.townOf(boys + "0").at(0, 2), 1);
        e.inside("1", Due.townOf(boys + "1").at(0, 2), 2);
        e.inside("2", Due.townOf(boys + "2").at(0, 2), 4);
        e.at("3", Due.townOf(boys + "3").at(0, 2), 8);
        e.at("any", Due.townOf(boys + "4").at(0, 2), 15);
        RobbedOnce x = new RobbedOnce();
        e.outside("wants 5", x.thief(0, 5), RobbedOnce.BAD);
        e.outside("wants -1", x.thief(0, -1), RobbedOnce.BAD);
        e.at("wants 4", x.thief(0, 4), 0);
        e.inside("wants 3", x.thief(0, 3), 1);
    }

    private static void barRange() {
        e.sentence("THE BAR is 0 .. 99 (10 at first).");
        RobbedOnce x = new RobbedOnce();
        e.at("at first", x.count(3), 10);
        e.at("to 0", x.bar(0), 10);
        e.at("to 99", x.bar(99), 0);
        e.outside("to 100", x.bar(100), RobbedOnce.BAD);
        e.outside("to -1", x.bar(-1), RobbedOnce.BAD);
        e.outside("it stays", x.count(3), 99);
        e.inside("to 98", x.bar(98), 99);
        e.inside("to 1", x.bar(1), 98);
        e.inside("it is", x.count(3), 1);
    }

    private static void barWas() {
        e.sentence("THE BAR becomes v: what it was. BAD.");
        RobbedOnce x = new RobbedOnce();
        e.at("as it is already", x.bar(10), 10);
        e.inside("one more", x.bar(11), 10);
        e.inside("one less", x.bar(9), 11);
        e.outside("the least int", x.bar(Integer.MIN_VALUE), RobbedOnce.BAD);
        e.outside("the greatest int", x.bar(Integer.MAX_VALUE), RobbedOnce.BAD);
    }

    private static void nightAtFirst() {
        e.sentence("It is NIGHT 0 at first.");
        RobbedOnce x = new RobbedOnce();
        e.at("at first", x.count(2), 0);
        x.nights(1);
        e.inside("a night later", x.count(2), 1);
        x.undo();
        e.at("undone", x.count(2), 0);
        x.undo();
        e.outside("there is none ahead of it", x.count(2), 0);
    }

    private static void plain() {
        e.sentence("0 PLAIN: 2.");
        e.at("in night 0", afterNights("10;p00", 1).of(0, 2), 2);
        e.inside("in night 1", afterNights("10;p00", 2).of(0, 2), 4);
        e.outside("hidden likewise", afterNights("10;p00x", 2).of(0, 2), 4);
    }

    private static void fond() {
        e.sentence("1 FOND: twice as much.");
        e.at("in night 0", afterNights("10;f00", 1).of(0, 2), 4);
        e.inside("in night 1", afterNights("10;f00", 2).of(0, 2), 8);
        e.outside("hidden likewise", afterNights("10;f00x", 2).of(0, 2), 8);
    }

    private static void careless() {
        e.sentence("as PLAIN in NIGHTS of an odd number, else 0");
        RobbedOnce x = Due.townOf("10;c00");
        x.nights(1);
        e.outside("in night 0", x.of(0, 2), 0);
        x.nights(1);
        e.at("in night 1", x.of(0, 2), 2);
        x.nights(1);
        e.outside("in night 2", x.of(0, 2), 2);
        x.nights(1);
        e.inside("in night 3", x.of(0, 2), 4);
        e.inside("foretold likewise", x.ahead(0, 1), 4);
        e.inside("foretold likewise", x.ahead(0, 2), 6);
    }

    private static void doting() {
        e.sentence("as FOND, 3 more if it is SHOWN");
        e.at("shown", afterNights("10;d00", 1).of(0, 2), 7);
        e.outside("hidden", afterNights("10;d00x", 1).of(0, 2), 4);
        RobbedOnce x = afterNights("10;d00x", 1);
        x.show(0, 1);
        x.nights(1);
        e.inside("hidden, then shown", x.of(0, 2), 11);
    }

    private static void rich() {
        e.sentence("but not beyond 6 (what is DEARER already stays)");
        int[] now = {3, 4, 5, 6, 7, 8, 98, 99};
        int[] later = {5, 6, 6, 6, 7, 8, 98, 99};
        for (int i = 0; i < now.length; i++) {
            RobbedOnce x = afterNights("10;r00=" + now[i], 1);
            String call = "of " + now[i];
            e.inside(call + " in an even night", x.of(0, 2), now[i]);
            x.nights(1);
            if (now[i] < 4) {
                e.inside(call, x.of(0, 2), later[i]);
            } else if (now[i] <= 6) {
                e.at(call, x.of(0, 2), later[i]);
            } else {
                e.outside(call, x.of(0, 2), later[i]);
            }
        }
    }

    private static void showsAndIsNotSworn() {
        e.sentence("A THIEF MAY ROB one who SHOWS a THING, is not SWORN");
        RobbedOnce x = Due.townOf("5;p00=5,p00=4;94");
        e.inside("both", x.at(0, 2), 3);
        x.show(1, 0);
        e.at("one hides it", x.at(0, 2), 1);
        e.at("one hides it", x.of(1, 6), 0);
        x.nights(1);
        e.outside("the other one is sworn", x.at(0, 2), 0);
        e.outside("the other one is sworn, and shows", x.of(0, 6), 0);
        x.show(1, 1);
        e.inside("shown again", x.at(0, 2), 2);
    }

    private static void carefulByNoMore() {
        e.sentence("is CAREFUL by no more than its SKILL");
        RobbedOnce x = Due.townOf("9;p04,p05,p06;54");
        e.inside("less", x.of(0, 6), 1);
        e.at("as much", x.of(1, 6), 1);
        e.outside("more", x.of(2, 6), 0);
        e.at("of 9", Due.townOf("9;p09;94").of(0, 6), 1);
        e.outside("9 against 8", Due.townOf("9;p09;84").of(0, 6), 0);
        e.at("of 0", Due.townOf("9;p00;04").of(0, 6), 1);
        e.outside("1 against 0", Due.townOf("9;p01;04").of(0, 6), 0);
    }

    private static void sortThatItWants() {
        e.sentence("whose THING is of the SORT that it WANTS.");
        RobbedOnce x = Due.townOf("9;p10,p20,p30;92,94");
        e.outside("one less", x.of(0, 6), 2);
        e.at("it", x.of(1, 6), 3);
        e.inside("any", x.at(1, 2), 7);
        e.outside("one more", x.of(2, 6), 2);
    }

    private static void dearest() {
        e.sentence("whose THING is DEAREST, of like ones the first, if there is one");
        e.inside("the second dearer by one", Due.townOf("99;p00=7,p00=8,p00=8;90").robs(0), 1);
        e.at("like ones", Due.townOf("99;p00=8,p00=8,p00=8;90").robs(0), 0);
        e.at("like ones of 0", Due.townOf("99;p10,p00,p00;90").robs(0), 1);
        e.inside("the first dearer by one", Due.townOf("99;p00=9,p00=8;90").robs(0), 0);
        e.outside("nobody to rob", Due.townOf("99;p00=9x,p10=8;90").robs(0), RobbedOnce.NONE);
        RobbedOnce x = afterNights("99;p00=8,p00=8;90", 1);
        e.at("the first is robbed", x.of(0, 2), 0);
        e.outside("the second is not", x.of(1, 2), 10);
    }

    private static void rising() {
        e.sentence("THIEVES, rising, each ROB the one of those they MAY ROB");
        RobbedOnce x = Due.townOf("99;p00=9,p10=8,p20=7,p30=6;94,94,94,94");
        e.at("the first thief", x.robs(0), 0);
        e.inside("the second", x.robs(1), 1);
        e.inside("the third", x.robs(2), 2);
        e.at("the last", x.robs(3), 3);
        RobbedOnce y = Due.townOf("99;p00=9,p10=8;94,90");
        e.at("who may rob any comes first", y.robs(0), 0);
        e.outside("nothing is left to who wants one sort", y.robs(1), RobbedOnce.NONE);
        RobbedOnce z = Due.townOf("99;p00=9,p10=8;90,94");
        e.at("who wants one sort comes first", z.robs(0), 0);
        e.inside("the other one is left", z.robs(1), 1);
    }

    private static void notRobbedAgain() {
        e.sentence("who was ROBBED is not ROBBED again in it");
        RobbedOnce x = Due.townOf("99;p00=9,p00=5;94,94,94");
        e.inside("the first thief", x.robs(0), 0);
        e.at("the second robs another", x.robs(1), 1);
        e.outside("nobody is left to the third", x.robs(2), RobbedOnce.NONE);
        x.nights(1);
        e.at("one sort further", x.of(0, 1), 1);
        e.at("one sort further", x.of(1, 1), 1);
        x.nights(1);
        e.inside("again in the next one", x.of(0, 1), 2);
        RobbedOnce y = Due.townOf("99;p00=9;90,91");
        e.outside("though its new thing would be wanted", y.robs(1), RobbedOnce.NONE);
        y.nights(1);
        e.outside("one sort further", y.of(0, 1), 1);
    }

    private static void asMuchAsTheBar() {
        e.sentence("DEAR by as much as THE BAR, or more, is SWORN");
        int[][] barAndDear = {{10, 9}, {10, 10}, {10, 11}, {0, 0}, {0, 1}, {99, 98}, {99, 99}};
        for (int[] b : barAndDear) {
            String call = b[1] + " by a bar of " + b[0];
            int sworn = afterNights(b[0] + ";p00=" + b[1] + ";90", 1).count(4);
            if (b[1] < b[0]) {
                e.outside(call, sworn, 0);
            } else if (b[1] == b[0]) {
                e.at(call, sworn, 1);
            } else {
                e.inside(call, sworn, 1);
            }
        }
        RobbedOnce x = afterNights("10;p20=12;94", 1);
        e.inside("the thing stays as it was", x.of(0, 2), 12);
        e.inside("and its sort", x.of(0, 1), 2);
    }

    private static void nextSort() {
        e.sentence("of the next SORT (behind 3: 0), DEAR by 0");
        int[] next = {1, 2, 3, 0};
        for (int sort = 0; sort < 4; sort++) {
            RobbedOnce x = afterNights("99;p" + sort + "0=50;94", 1);
            if (sort < 2) {
                e.inside("behind " + sort, x.of(0, 1), next[sort]);
            } else if (sort == 2) {
                e.at("behind 2", x.of(0, 1), 3);
            } else {
                e.outside("behind 3", x.of(0, 1), 0);
            }
            e.at("dear", x.of(0, 2), 0);
        }
    }

    private static void ninetyNineAtMost() {
        e.sentence("are DEARER (99 at most)");
        String[] boys = {"p00=96", "p00=97", "p00=98", "p00=99", "f00=94", "f00=95", "f00=96", "d00=91", "d00=92", "d00=93"};
        int[] later = {98, 99, 99, 99, 98, 99, 99, 98, 99, 99};
        int[] side = {0, 1, 2, 2, 0, 1, 2, 0, 1, 2};
        for (int i = 0; i < boys.length; i++) {
            int dear = afterNights("10;" + boys[i], 1).of(0, 2);
            if (side[i] == 0) {
                e.inside(boys[i], dear, later[i]);
            } else if (side[i] == 1) {
                e.at(boys[i], dear, later[i]);
            } else {
                e.outside(boys[i], dear, later[i]);
            }
        }
        e.outside("careless", afterNights("10;c00=98", 2).of(0, 2), 99);
    }

    private static void neitherSwornNorRobbed() {
        e.sentence("Then THINGS of all who are not SWORN, and were not ROBBED in it");
        RobbedOnce x = afterNights("10;p00=20,p00=9,p00=5;90,90", 1);
        e.outside("sworn in it", x.of(0, 2), 20);
        e.at("robbed in it", x.of(1, 2), 0);
        e.inside("neither", x.of(2, 2), 7);
        x.nights(1);
        e.outside("sworn ahead of it", x.of(0, 2), 20);
        e.inside("robbed in the one ahead", x.of(1, 2), 2);
        e.at("robbed in this one", x.of(2, 2), 0);
    }

    private static void nextNight() {
        e.sentence("It is the next NIGHT.");
        RobbedOnce x = new RobbedOnce();
        x.nights(1);
        e.at("behind one", x.count(2), 1);
        x.drift(1);
        e.inside("behind a drift", x.count(2), 2);
        x.nights(41);
        e.outside("behind a refused one", x.count(2), 2);
    }

    private static void ofWhat() {
        e.sentence("Of an APPRENTICE: 0 KIND, 1 SORT");
        RobbedOnce x = Due.townOf("9;f23;94");
        e.at("0", x.of(0, 0), 1);
        e.inside("1", x.of(0, 1), 2);
        e.inside("5", x.of(0, 5), 0);
        e.at("6", x.of(0, 6), 1);
        e.outside("7", x.of(0, 7), RobbedOnce.BAD);
        e.outside("-1", x.of(0, -1), RobbedOnce.BAD);
    }

    private static void oneOrNought() {
        e.sentence("4 whether it SHOWS (1, 0), 5 whether SWORN (1, 0)");
        RobbedOnce x = Due.townOf("5;p00,p00,p00x,p00,p00,p00=5;90");
        e.at("shows, the sixth", x.of(5, 4), 1);
        e.inside("hides", x.of(2, 4), 0);
        e.inside("not sworn", x.of(5, 5), 0);
        x.nights(1);
        e.at("sworn, the sixth", x.of(5, 5), 1);
        e.inside("not sworn", x.of(0, 5), 0);
        e.outside("the seventh shows", x.of(6, 4), RobbedOnce.BAD);
        e.outside("the seventh is sworn", x.of(6, 5), RobbedOnce.BAD);
    }

    private static void mayRobSet() {
        e.sentence("6 THIEVES who MAY ROB it (a set)");
        RobbedOnce x = Due.townOf("9;p05,p00x,p09;50,44,54,64");
        e.inside("some of four", x.of(0, 6), 1 | 4 | 8);
        e.at("none of a hidden one", x.of(1, 6), 0);
        e.outside("none of a careful one", x.of(2, 6), 0);
        e.at("all of four", Due.townOf("9;p00;94,94,94,94").of(0, 6), 15);
        e.at("no thieves", Due.townOf("9;p00").of(0, 6), 0);
    }

    private static void atWhat() {
        e.sentence("Of a THIEF: 0 SKILL, 1 what it WANTS, 2 whom it MAY ROB (a set). BAD.");
        RobbedOnce x = Due.townOf("9;p00,p00,p00,p00,p00,p00;64");
        e.at("0", x.at(0, 0), 6);
        e.inside("1", x.at(0, 1), 4);
        e.at("2, all of six", x.at(0, 2), 63);
        e.outside("3", x.at(0, 3), RobbedOnce.BAD);
        e.outside("-1", x.at(0, -1), RobbedOnce.BAD);
        e.at("2, nobody there", withThieves(1).at(0, 2), 0);
    }

    private static void letters() {
        e.sentence("BAD: not 32 .. 126; FULL: 80.");
        RobbedOnce x = new RobbedOnce();
        e.outside("31", x.type(31), RobbedOnce.BAD);
        e.at("32", x.type(32), 1);
        e.inside("33", x.type(33), 2);
        e.inside("125", x.type(125), 3);
        e.at("126", x.type(126), 4);
        e.outside("127", x.type(127), RobbedOnce.BAD);
        e.outside("0", x.type(0), RobbedOnce.BAD);
        e.outside("-1", x.type(-1), RobbedOnce.BAD);
        e.outside("a blank and 65536 more", x.type(65536 + 32), RobbedOnce.BAD);
        e.inside("refused ones are not there", x.type(32), 5);
    }

    private static void tapeLength() {
        e.sentence("One letter more behind THE TAPE: how many it has.");
        RobbedOnce x = new RobbedOnce();
        for (int i = 1; i < 79; i++) {
            x.type(32);
        }
        e.inside("the 79th", x.type(32), 79);
        e.at("the 80th", x.type('9'), 80);
        e.outside("the 81st", x.type(';'), RobbedOnce.FULL);
        e.outside("it is not there", x.town(), -100);
        e.at("the first again", x.type(32), 1);
    }

    private static void countWhat() {
        e.sentence("7 what may be UNDONE. BAD.");
        RobbedOnce x = Due.townOf("9;p00,p00;94");
        e.at("0", x.count(0), 2);
        e.inside("1", x.count(1), 1);
        e.inside("6", x.count(6), 0);
        e.at("7", x.count(7), 0);
        x.teach(0, 1);
        e.at("7", x.count(7), 1);
        e.outside("8", x.count(8), RobbedOnce.BAD);
        e.outside("-1", x.count(-1), RobbedOnce.BAD);
    }

    private static void showsAsTheyDid() {
        e.sentence("5 who SHOWS (a set, SWORN ones as they did)");
        RobbedOnce x = Due.townOf("5;p00=9,p10,p20x,p30x,p30x,p30;90");
        e.inside("ahead", x.count(5), 1 | 2 | 32);
        x.nights(1);
        e.at("one is sworn", x.count(4), 1);
        e.at("as it did", x.count(5), 1 | 2 | 32);
        x.show(1, 0);
        e.inside("another one hides", x.count(5), 1 | 32);
        e.outside("nobody", new RobbedOnce().count(5), 0);
        e.at("all of six", withApprentices(6).count(5), 63);
    }

    private static void dearTogether() {
        e.sentence("6 how DEAR THINGS of all who are not SWORN are together");
        e.at("nobody", new RobbedOnce().count(6), 0);
        RobbedOnce x = Due.townOf("99;p00=99,p00=99,p00=99,p00=99,p00=99,p00=99;90");
        e.at("six of 99", x.count(6), 594);
        x.nights(1);
        e.inside("a sworn one less", x.count(6), 495);
        x.undo();
        x.bar(0);
        x.nights(6);
        e.outside("all are sworn", x.count(6), 0);
    }
}
