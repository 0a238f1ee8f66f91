/** The boundaries of a TOWN as a TEXT: promise 8, and what section 3 says of it. */
public final class EdgesTextTest {
    private static final Edges e = new Edges();

    public static void main(String[] args) {
        bar();
        apprentices();
        kinds();
        sorts();
        careful();
        dear();
        hidden();
        thieves();
        skillAndWants();
        inPlaceOfAll();
        drawStays();
        digits();
        places();
        ends();
        blanks();
        tapeIsEmpty();
        allElseStays();
        howMany();
        e.end();
    }

    private static int read(String text) {
        return Due.readInto(new RobbedOnce(), text);
    }

    /** A fault at a place, counted from 0. */
    private static int fault(int place) {
        return -20 - place;
    }

    private static void bar() {
        e.sentence("a number 0 .. 99 (THE BAR)");
        e.at("0", Due.townOf("0;p00").count(3), 0);
        e.inside("1", Due.townOf("1;p00").count(3), 1);
        e.inside("9", Due.townOf("9;p00").count(3), 9);
        e.inside("10", Due.townOf("10;p00").count(3), 10);
        e.inside("98", Due.townOf("98;p00").count(3), 98);
        e.at("99", Due.townOf("99;p00").count(3), 99);
        e.at("00", Due.townOf("00;p00").count(3), 0);
        e.outside("100", read("100;p00"), fault(2));
        e.outside("-1", read("-1;p00"), fault(0));
        e.outside("none", read(";p00"), fault(0));
        e.outside("the sign below 0", read("/;p00"), fault(0));
        e.outside("the sign behind 9", read(":;p00"), fault(0));
    }

    private static void apprentices() {
        e.sentence("and 1 to 6 APPRENTICES with , between");
        e.outside("none", read("9;"), fault(2));
        e.outside("none, but thieves", read("9;;54"), fault(2));
        e.at("1", read("9;p00"), 1);
        e.inside("2", read("9;p00,p00"), 2);
        e.inside("5", read("9;p00,p00,p00,p00,p00"), 5);
        e.at("6", read("9;p00,p00,p00,p00,p00,p00"), 6);
        e.outside("7", read("9;p00,p00,p00,p00,p00,p00,p00"), fault(25));
        e.outside("a comma behind 6", read("9;p00,p00,p00,p00,p00,p00,"), fault(25));
        e.outside("a comma ahead", read("9;,p00"), fault(2));
        e.outside("a comma behind 1", read("9;p00,"), fault(6));
        e.outside("two commas", read("9;p00,,p00"), fault(6));
        e.outside("no comma", read("9;p00p00"), fault(5));
        e.outside("a comma ahead of thieves", read("9;p00,;54"), fault(6));
        e.outside("no ; ahead", read("9p00"), fault(1));
    }

    private static void kinds() {
        e.sentence("p f c d r (KINDS in this order)");
        RobbedOnce x = Due.townOf("9;p00,f00,c00,d00,r00");
        e.at("p", x.of(0, 0), 0);
        e.inside("f", x.of(1, 0), 1);
        e.inside("c", x.of(2, 0), 2);
        e.inside("d", x.of(3, 0), 3);
        e.at("r", x.of(4, 0), 4);
        String wrong = "obqegsPFCDRx0=,; ~";
        for (int i = 0; i < wrong.length(); i++) {
            int place = wrong.charAt(i) == ' ' ? 3 : 2;
            e.outside("'" + wrong.charAt(i) + "'", read("9;" + wrong.charAt(i) + "00"), fault(place));
        }
    }

    private static void sorts() {
        e.sentence("a digit 0 .. 3 (SORT)");
        RobbedOnce x = Due.townOf("9;p00,p10,p20,p30");
        e.at("0", x.of(0, 1), 0);
        e.inside("1", x.of(1, 1), 1);
        e.inside("2", x.of(2, 1), 2);
        e.at("3", x.of(3, 1), 3);
        e.outside("4", read("9;p40"), fault(3));
        e.outside("9", read("9;p90"), fault(3));
        e.outside("the sign below 0", read("9;p/0"), fault(3));
        e.outside("none", read("9;p"), fault(3));
    }

    private static void careful() {
        e.sentence("a digit (CAREFUL)");
        RobbedOnce x = Due.townOf("9;p00,p01,p08,p09");
        e.at("0", x.of(0, 3), 0);
        e.inside("1", x.of(1, 3), 1);
        e.inside("8", x.of(2, 3), 8);
        e.at("9", x.of(3, 3), 9);
        e.outside("the sign behind 9", read("9;p0:"), fault(4));
        e.outside("the sign below 0", read("9;p0/"), fault(4));
        e.outside("none", read("9;p0"), fault(4));
        e.outside("two", read("9;p010"), fault(5));
    }

    private static void dear() {
        e.sentence("then perhaps = and a number 0 .. 99 (DEAR)");
        RobbedOnce x = Due.townOf("9;p00,p00=0,p00=1,p00=98,p00=99,p00=07");
        int[] want = {0, 0, 1, 98, 99, 7};
        for (int a = 0; a < 6; a++) {
            if (a == 2 || a == 3 || a == 5) {
                e.inside("apprentice " + a, x.of(a, 2), want[a]);
            } else {
                e.at("apprentice " + a, x.of(a, 2), want[a]);
            }
        }
        e.outside("100", read("9;p00=100"), fault(8));
        e.outside("-1", read("9;p00=-1"), fault(6));
        e.outside("none", read("9;p00="), fault(6));
        e.outside("none, x", read("9;p00=x"), fault(6));
        e.outside("twice", read("9;p00=1=1"), fault(7));
        e.outside("no =", read("9;p001"), fault(5));
    }

    private static void hidden() {
        e.sentence("perhaps x (HIDDEN)");
        RobbedOnce x = Due.townOf("9;p00,p00x,p00=5,p00=5x");
        e.at("not there", x.of(0, 4), 1);
        e.at("there", x.of(1, 4), 0);
        e.inside("not there behind a number", x.of(2, 4), 1);
        e.inside("there behind a number", x.of(3, 4), 0);
        e.outside("twice", read("9;p00xx"), fault(6));
        e.outside("ahead of =", read("9;p00x=5"), fault(6));
        e.outside("another letter", read("9;p00X"), fault(5));
    }

    private static void thieves() {
        e.sentence("then perhaps ; and 1 to 4 THIEVES with , between");
        e.at("no ;", Due.townOf("9;p00").count(1), 0);
        e.outside("; and none", read("9;p00;"), fault(6));
        e.at("1", Due.townOf("9;p00;54").count(1), 1);
        e.inside("2", Due.townOf("9;p00;54,54").count(1), 2);
        e.inside("3", Due.townOf("9;p00;54,54,54").count(1), 3);
        e.at("4", Due.townOf("9;p00;54,54,54,54").count(1), 4);
        e.outside("5", read("9;p00;54,54,54,54,54"), fault(17));
        e.outside("a comma behind 4", read("9;p00;54,54,54,54,"), fault(17));
        e.outside("a comma behind 1", read("9;p00;54,"), fault(9));
        e.outside("a comma ahead", read("9;p00;,54"), fault(6));
        e.outside("no comma", read("9;p00;5454"), fault(8));
        e.outside("a ; behind", read("9;p00;54;"), fault(8));
    }

    private static void skillAndWants() {
        e.sentence("a digit (SKILL), a digit 0 .. 4 (WANTS)");
        RobbedOnce x = Due.townOf("9;p00;00,11,83,94");
        int[][] want = {{0, 0}, {1, 1}, {8, 3}, {9, 4}};
        for (int t = 0; t < 4; t++) {
            if (t == 0 || t == 3) {
                e.at("skill of " + t, x.at(t, 0), want[t][0]);
                e.at("wants of " + t, x.at(t, 1), want[t][1]);
            } else {
                e.inside("skill of " + t, x.at(t, 0), want[t][0]);
                e.inside("wants of " + t, x.at(t, 1), want[t][1]);
            }
        }
        e.outside("wants 5", read("9;p00;55"), fault(7));
        e.outside("wants 9", read("9;p00;59"), fault(7));
        e.outside("wants nothing", read("9;p00;5"), fault(7));
        e.outside("skill behind 9", read("9;p00;:4"), fault(6));
        e.outside("skill below 0", read("9;p00;/4"), fault(6));
        e.outside("three digits", read("9;p00;541"), fault(8));
        e.outside("a thing", read("9;p00;54=1"), fault(8));
        e.outside("hidden", read("9;p00;54x"), fault(8));
    }

    private static void inPlaceOfAll() {
        e.sentence("in place of all; nobody SWORN, NIGHT 0 (THE DRAW stays)");
        RobbedOnce x = Due.townOf("5;p00=9,p00=9,p00x,p00,p00,p00;90,90,90,90");
        x.nights(2);
        e.outside("two and two are sworn ahead", x.count(4), 3);
        e.at("one of the same number", Due.readInto(x, "7;r35x"), 1);
        int[] counts = {1, 0, 0, 7, 0, 0, 0, 0};
        for (int what = 0; what < counts.length; what++) {
            e.at("count " + what, x.count(what), counts[what]);
        }
        e.inside("nothing of what was", x.of(0, 2), 0);
        e.outside("no second one", x.of(1, 0), RobbedOnce.BAD);
        e.outside("no thief", x.at(0, 0), RobbedOnce.BAD);
        e.inside("another one comes behind it", x.apprentice(0, 0, 0), 1);
        e.inside("who shows", x.count(5), 2);
    }

    private static void drawStays() {
        e.sentence("(THE DRAW stays)");
        RobbedOnce x = new RobbedOnce();
        x.seed(0);
        Due.readInto(x, "7;p00");
        e.at("0", x.seed(Integer.MAX_VALUE), 0);
        Due.readInto(x, "7;p00");
        e.inside("the greatest", x.seed(5), Integer.MAX_VALUE);
        Due.readInto(x, "7;p0");
        e.outside("behind a fault", x.seed(1), 5);
    }

    private static void digits() {
        e.sentence("Numbers have 1 or 2 digits (a third one can't stand there).");
        e.outside("no digit", read(";p00=5"), fault(0));
        e.at("1 digit", read("5;p00=5"), 1);
        e.at("2 digits", read("05;p00=05"), 1);
        e.inside("2 digits, no nought ahead", read("55;p00=55"), 1);
        e.outside("3 digits", read("005;p00"), fault(2));
        e.outside("3 digits", read("055;p00"), fault(2));
        e.outside("3 digits of a thing", read("5;p00=005"), fault(8));
        e.outside("4 digits", read("0055;p00"), fault(2));
        e.outside("the sign behind 9 is no second digit", read("5:;p00"), fault(1));
        e.outside("the sign below 0 is no second digit", read("5/;p00"), fault(1));
        e.outside("the sign behind 9 is no digit of a thing", read("5;p00=:"), fault(6));
        e.outside("the sign behind 9 is no second digit of a thing", read("5;p00=5:"), fault(7));
        e.outside("a third one behind a blank", read("05 5;p00"), fault(3));
    }

    private static void places() {
        e.sentence("-20 less the place of the first letter (behind blanks) that can't stand there");
        e.at("the first letter", read("~"), -20);
        e.inside("the second letter", read("9~"), -21);
        e.inside("behind a blank", read(" ~"), -21);
        e.inside("behind blanks", read("9   ~"), -24);
        e.inside("the first of two", read("9~~"), -21);
        e.at("the eightieth", read(" ".repeat(79) + "~"), -99);
        e.at("the eightieth, a town ahead", read("9;p00" + " ".repeat(74) + "~"), -99);
        e.outside("no such letter", read("9;p00" + " ".repeat(75)), 1);
    }

    private static void ends() {
        e.sentence("(the end: how many there are)");
        e.at("none", read(""), -20);
        e.inside("one", read("9"), -21);
        e.inside("two", read("99"), -22);
        e.inside("a blank", read(" "), -21);
        e.inside("blanks behind", read("9;p0  "), -26);
        e.inside("79 blanks", read(" ".repeat(79)), -99);
        e.at("80 blanks", read(" ".repeat(80)), -100);
        e.at("80 letters", read(" ".repeat(75) + "9;p00"), 1);
        e.at("80 letters, one is missing", read(" ".repeat(76) + "9;p0"), -100);
        e.outside("81 letters", read(" ".repeat(76) + "9;p00"), -100);
    }

    private static void blanks() {
        e.sentence("blanks count for nothing, but end a number");
        RobbedOnce x = new RobbedOnce();
        e.inside("everywhere but in numbers", Due.readInto(x, "  15 ; p 3 9 = 42 x , r 0 0 ; 5 4 , 9 0  "), 2);
        int[] want = {0, 3, 42, 9, 0};
        for (int what = 0; what < want.length; what++) {
            e.inside("of(0, " + what + ")", x.of(0, what), want[what]);
        }
        e.inside("a second one", x.of(1, 4), 1);
        e.inside("thieves", x.at(1, 0), 9);
        e.at("ending the bar", Due.townOf("1 ;p00").count(3), 1);
        e.outside("within the bar", read("1 5;p00"), fault(2));
        e.at("ending how dear", Due.townOf("1;p00=4 ").of(0, 2), 4);
        e.outside("within how dear", read("1;p00=4 2"), fault(8));
        e.inside("between a number and x", Due.townOf("1;p00=4 x").of(0, 4), 0);
        e.inside("between sort and careful, which are no number", Due.townOf("1;p0 7").of(0, 3), 7);
        e.outside("another blank", read("9;p00\t"), 1);
    }

    private static void tapeIsEmpty() {
        e.sentence("THE TAPE, which is empty then, is a TOWN");
        RobbedOnce x = new RobbedOnce();
        e.outside("empty already", x.town(), -20);
        e.at("behind a town", Due.readInto(x, "9;p00"), 1);
        e.at("it is empty", x.type('9'), 1);
        e.inside("a letter was there", Due.readInto(x, ";p00"), 1);
        e.at("a fault", Due.readInto(x, "9;p00~"), -25);
        e.at("it is empty behind a fault, too", x.town(), -20);
        for (int i = 0; i < 80; i++) {
            x.type('~');
        }
        e.outside("full", x.type('~'), RobbedOnce.FULL);
        x.town();
        e.at("room for all again", x.type('9'), 1);
    }

    private static void allElseStays() {
        e.sentence("A FAULT (all else stays).");
        String[] faults = {"", "77", "77;", "77;f11=7", "77;f11=7;", "77;f11=7;43,", "77;f11=7;43~"};
        for (int i = 0; i < faults.length; i++) {
            RobbedOnce x = Due.townOf("5;p00=9,c23x;90");
            x.seed(8);
            x.nights(3);
            int answer = Due.readInto(x, faults[i]);
            int[] counts = {2, 1, 3, 5, 1, 1, 2, 3};
            if (i == 3) {
                e.inside("a town", answer, 1);
                e.inside("in place of all", x.count(3), 77);
                continue;
            }
            e.at("the fault of '" + faults[i] + "'", answer, fault(i == 6 ? 11 : faults[i].length()));
            for (int what = 0; what < counts.length; what++) {
                e.outside("count " + what + " behind '" + faults[i] + "'", x.count(what), counts[what]);
            }
            e.outside("the draw", x.seed(1), 8);
            e.outside("undone", x.undo(), 2);
        }
    }

    private static void howMany() {
        e.sentence("is a TOWN: how many APPRENTICES.");
        e.at("1", read("9;p00"), 1);
        e.inside("3", read("9;p00,p00,p00;90,90"), 3);
        e.at("6", read("9;p00,p00,p00,p00,p00,p00;90,90,90,90"), 6);
        e.outside("0", read("9;"), fault(2));
    }
}
