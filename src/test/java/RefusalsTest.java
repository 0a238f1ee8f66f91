import java.util.function.Supplier;
import java.util.function.ToIntFunction;

/** What the document says of refusals as such: their order, and that they change nothing. */
public final class RefusalsTest {
    private static final Edges e = new Edges();
    private static final int BAD = RobbedOnce.BAD, NOT = RobbedOnce.NOT, FULL = RobbedOnce.FULL, NONE = RobbedOnce.NONE;
    private static final int NULL = RobbedOnce.NULL, CAST = RobbedOnce.CAST, INDEX = RobbedOnce.INDEX, SIZE = RobbedOnce.SIZE;

    public static void main(String[] args) {
        badAheadOfFull();
        badAheadOfNot();
        badAheadOfNone();
        badAheadOfWhatTheMachineFinds();
        whatTheMachineFinds();
        badChangesNothing();
        notAndNoneChangeNothing();
        fullChangesNothing();
        lastNightChangesNothing();
        machineChangesNothing();
        butAsTold();
        calls();
        e.end();
    }

    /** Three apprentices, the first of them sworn, two thieves, three that may be undone, an image, letters, three sheets. */
    private static RobbedOnce lived() {
        RobbedOnce x = Due.townOf("9;p05=12,f15=3,d25x;50,64");
        x.seed(7);
        x.nights(1);
        x.image();
        x.show(2, 1);
        x.teach(1, 6);
        x.bar(12);
        x.type('9');
        x.type(';');
        for (int s = 0; s < 3; s++) {
            x.sheet(s, s + 1, 3);
            x.item(s, s + 1, 0, 5 + s);
            x.item(s, s + 1, 2, 9 + s);
        }
        return x;
    }

    /** Six apprentices, four thieves, eighty letters. */
    private static RobbedOnce full() {
        RobbedOnce x = new RobbedOnce();
        for (int a = 0; a < 6; a++) {
            x.apprentice(a % 5, a % 4, a);
        }
        for (int t = 0; t < 4; t++) {
            x.thief(5 + t, t);
        }
        x.nights(8);
        for (int i = 0; i < 80; i++) {
            x.type(i % 2 == 0 ? '9' : ';');
        }
        return x;
    }

    private static RobbedOnce inTheLastNight() {
        RobbedOnce x = Due.townOf("9;c00");
        for (int i = 0; i < 249; i++) {
            x.nights(40);
        }
        x.nights(39);
        return x;
    }

    private static void badAheadOfFull() {
        e.sentence("of several the first that a call names");
        e.inside("apprentice, bad", lived().apprentice(5, 0, 0), BAD);
        e.at("apprentice, bad and full", full().apprentice(5, 0, 0), BAD);
        e.at("apprentice, bad and full", full().apprentice(0, 4, 0), BAD);
        e.at("apprentice, bad and full", full().apprentice(0, 0, 10), BAD);
        e.outside("apprentice, full", full().apprentice(4, 3, 9), FULL);
        e.inside("thief, bad", lived().thief(0, 5), BAD);
        e.at("thief, bad and full", full().thief(0, 5), BAD);
        e.at("thief, bad and full", full().thief(10, 0), BAD);
        e.outside("thief, full", full().thief(9, 4), FULL);
        e.inside("type, bad", lived().type(127), BAD);
        e.at("type, bad and full", full().type(127), BAD);
        e.at("type, bad and full", full().type(31), BAD);
        e.outside("type, full", full().type(126), FULL);
        RobbedOnce last = inTheLastNight();
        e.inside("nights, bad", lived().nights(41), BAD);
        e.at("nights, bad and full", last.nights(41), BAD);
        e.at("nights, bad", last.nights(0), BAD);
        e.outside("nights, full", last.nights(40), FULL);
        e.at("drift, bad and full", last.drift(41), BAD);
        e.at("drift, bad", last.drift(0), BAD);
        e.outside("drift, full", last.drift(1), FULL);
    }

    private static void badAheadOfNot() {
        e.sentence("SHOWN (1), HIDDEN (0): who SHOWS then (a set). BAD; NOT: it is so, it is SWORN.");
        e.inside("bad", lived().show(1, 2), BAD);
        e.at("bad, and it is sworn", lived().show(0, 2), BAD);
        e.at("bad, and it is sworn", lived().show(0, -1), BAD);
        e.outside("it is so", lived().show(1, 1), NOT);
        e.outside("it is so, and it is sworn", lived().show(0, 1), NOT);
        e.outside("it is sworn", lived().show(0, 0), NOT);
    }

    /** That BAD goes ahead of NONE, which some calls name first, is as ../shared/tests has it: cover(0, 1, 2) there. */
    private static void badAheadOfNone() {
        e.sentence("NOT -2 (as told), FULL -3, NONE -4 (as told)");
        Supplier<RobbedOnce> none = () -> Due.townOf("9;p05");
        e.inside("hides, none", none.get().hides(0, 0), NONE);
        e.at("hides, bad and none", none.get().hides(0, 2), BAD);
        e.inside("cover, none", none.get().cover(0, 1, 0), NONE);
        e.at("cover, bad and none", none.get().cover(0, 1, 2), BAD);
        e.at("cover, bad and none", none.get().cover(0, 41, 0), BAD);
        e.inside("spare, none", none.get().spare(1, 0), NONE);
        e.at("spare, bad and none", none.get().spare(1, 2), BAD);
        e.at("spare, bad and none", none.get().spare(0, 0), BAD);
        e.inside("low, none", none.get().low(1), NONE);
        e.outside("low, bad", none.get().low(41), BAD);
        e.inside("care, none", none.get().care(0, 1), NONE);
        e.outside("care, bad", none.get().care(0, 41), BAD);
        e.inside("sworn, none", none.get().sworn(0), NONE);
        e.outside("sworn, bad", none.get().sworn(1), BAD);
    }

    private static void badAheadOfWhatTheMachineFinds() {
        e.sentence("BAD -1 (a number is not as told, there is no such thing)");
        // Sheet 3 holds nothing, sheet 0 is of lane 1, and no sheet has an item 99.
        e.inside("grown, bad", lived().grown(3, 0, 1, 0, 1, 0), BAD);
        e.at("grown, no apprentice and null", lived().grown(3, 3, 1, 0, 1, 0), BAD);
        e.at("grown, no night and null", lived().grown(1, 3, 1, 0, 0, 0), BAD);
        e.at("grown, what and null", lived().grown(1, 3, 1, 0, 1, 3), BAD);
        e.at("grown, no lane and null", lived().grown(1, 3, 4, 0, 1, 0), BAD);
        e.at("grown, nine nights and cast", lived().grown(1, 0, 2, 0, 9, 0), BAD);
        e.at("grown, nine nights and index", lived().grown(1, 0, 1, 99, 9, 0), BAD);
        e.outside("grown, null", lived().grown(1, 3, 1, 0, 1, 0), NULL);
        e.at("film, no apprentice and null", lived().film(3, 1, 3, 1, 0), BAD);
        e.at("film, 25 nights and cast", lived().film(1, 25, 0, 2, 0), BAD);
        e.at("film, 25 nights and index", lived().film(1, 25, 0, 1, 0), BAD);
        e.outside("film, index", lived().film(1, 24, 0, 1, 0), INDEX);
        e.at("item, no lane and null", lived().item(3, 4, 0, 1), BAD);
        e.at("item, no lane and index", lived().item(0, 4, 99, 1), BAD);
        e.outside("item, index", lived().item(0, 1, 99, 1), INDEX);
        e.at("sheet, no lane and size", lived().sheet(0, 4, -1), BAD);
        e.outside("sheet, size", lived().sheet(0, 3, -1), SIZE);
        e.at("copy, no sheet and null", lived().copy(3, 0, 4, 0, 1), BAD);
        e.at("copy, no sheet and null", lived().copy(-1, 0, 3, 0, 1), BAD);
        e.at("copy, no sheet and index", lived().copy(0, 99, 4, 0, 1), BAD);
        e.outside("copy, null", lived().copy(0, 99, 3, 0, 1), NULL);
    }

    private static void whatTheMachineFinds() {
        e.sentence("(NULL, CAST, INDEX, SIZE in this order)");
        e.inside("grown, null", lived().grown(1, 3, 0, 0, 1, 0), NULL);
        e.at("grown, null and index", lived().grown(1, 3, 0, -1, 1, 0), NULL);
        e.at("grown, cast and index", lived().grown(1, 0, 0, -1, 1, 0), CAST);
        e.outside("grown, index", lived().grown(1, 0, 1, -1, 1, 0), INDEX);
        e.at("film, null and index", lived().film(1, 1, 3, 0, 3), NULL);
        e.at("film, cast and index", lived().film(1, 1, 0, 0, 3), CAST);
        e.outside("film, index", lived().film(1, 1, 0, 1, 3), INDEX);
        e.at("item, null and index", lived().item(3, 0, 3, 1), NULL);
        e.at("item, cast and index", lived().item(0, 0, 3, 1), CAST);
        e.outside("item, index", lived().item(0, 1, 3, 1), INDEX);
        e.at("copy, null and index", lived().copy(3, 9, 0, 9, 9), NULL);
        e.at("copy, null and index", lived().copy(0, 9, 3, 9, 9), NULL);
        e.at("copy, cast and index", lived().copy(0, 9, 1, 9, 9), CAST);
        e.at("copy, cast and less than none", lived().copy(0, 0, 1, 0, -1), CAST);
        e.outside("copy, less than none", lived().copy(0, 0, 0, 0, -1), INDEX);
        e.outside("copy, index", lived().copy(0, 9, 0, 9, 9), INDEX);
    }

    private static void stays(Supplier<RobbedOnce> town, String call, ToIntFunction<RobbedOnce> refused, int want) {
        RobbedOnce x = town.get();
        e.outside(call, refused.applyAsInt(x), want);
        e.at("all stays behind " + call, Trace.of(x), Trace.of(town.get()));
    }

    private static void changes(Supplier<RobbedOnce> town, String call, ToIntFunction<RobbedOnce> done) {
        RobbedOnce x = town.get();
        done.applyAsInt(x);
        e.inside(call + " can be seen", Trace.of(x) == Trace.of(town.get()) ? 1 : 0, 0);
    }

    private static void badChangesNothing() {
        e.sentence("What is refused changes nothing, but as told.");
        Supplier<RobbedOnce> town = RefusalsTest::lived;
        stays(town, "apprentice", x -> x.apprentice(0, 0, 10), BAD);
        stays(town, "thief", x -> x.thief(0, 5), BAD);
        stays(town, "bar", x -> x.bar(100), BAD);
        stays(town, "of", x -> x.of(0, 7), BAD);
        stays(town, "at", x -> x.at(0, 3), BAD);
        stays(town, "type", x -> x.type(127), BAD);
        stays(town, "count", x -> x.count(8), BAD);
        stays(town, "nights", x -> x.nights(41), BAD);
        stays(town, "show", x -> x.show(1, 2), BAD);
        stays(town, "teach", x -> x.teach(1, 10), BAD);
        stays(town, "drift", x -> x.drift(41), BAD);
        stays(town, "seed", x -> x.seed(-1), BAD);
        stays(town, "ahead", x -> x.ahead(0, 100), BAD);
        stays(town, "then", x -> x.then(100), BAD);
        stays(town, "sworn", x -> x.sworn(3), BAD);
        stays(town, "robs", x -> x.robs(2), BAD);
        stays(town, "hides", x -> x.hides(0, 2), BAD);
        stays(town, "cover", x -> x.cover(0, 41, 0), BAD);
        stays(town, "low", x -> x.low(41), BAD);
        stays(town, "spare", x -> x.spare(41, 0), BAD);
        stays(town, "care", x -> x.care(0, 41), BAD);
        stays(town, "leave", x -> x.leave(0, 11, 0), BAD);
        stays(town, "grown", x -> x.grown(1, 0, 1, 0, 9, 0), BAD);
        stays(town, "film", x -> x.film(1, 25, 0, 1, 0), BAD);
        stays(town, "sheet", x -> x.sheet(0, 1, 25), BAD);
        stays(town, "drop", x -> x.drop(4), BAD);
        stays(town, "item", x -> x.item(0, 4, 0, 1), BAD);
        stays(town, "copy", x -> x.copy(0, 0, 4, 0, 1), BAD);
        changes(town, "bar", x -> x.bar(11));
        changes(town, "seed", x -> x.seed(6));
        changes(town, "teach", x -> x.teach(1, 5));
        changes(town, "item", x -> x.item(0, 1, 0, 60));
        changes(town, "drop", x -> x.drop(2));
        changes(town, "type", x -> x.type('p'));
        changes(town, "image", x -> x.image());
    }

    private static void notAndNoneChangeNothing() {
        e.sentence("What is refused changes nothing");
        Supplier<RobbedOnce> town = RefusalsTest::lived;
        stays(town, "show, so", x -> x.show(1, 1), NOT);
        stays(town, "show, sworn", x -> x.show(0, 0), NOT);
        stays(town, "teach, so", x -> x.teach(1, 6), NOT);
        Supplier<RobbedOnce> young = () -> Due.townOf("9;p05");
        stays(young, "undo", x -> x.undo(), NONE);
        stays(young, "restore", x -> x.restore(), NONE);
        stays(young, "hides", x -> x.hides(0, 0), NONE);
        stays(young, "spare", x -> x.spare(1, 0), NONE);
        changes(young, "teach", x -> x.teach(0, 6));
    }

    private static void fullChangesNothing() {
        e.sentence("An APPRENTICE: the number. BAD; FULL: 6.");
        Supplier<RobbedOnce> town = RefusalsTest::full;
        stays(town, "apprentice", x -> x.apprentice(0, 0, 0), FULL);
        stays(town, "thief", x -> x.thief(0, 0), FULL);
        stays(town, "type", x -> x.type('9'), FULL);
        changes(town, "undo", x -> x.undo());
    }

    private static void lastNightChangesNothing() {
        e.sentence("FULL: the NIGHT would be above 9999.");
        Supplier<RobbedOnce> town = RefusalsTest::inTheLastNight;
        stays(town, "nights", x -> x.nights(1), FULL);
        stays(town, "nights", x -> x.nights(40), FULL);
        stays(town, "drift", x -> x.drift(1), FULL);
        changes(town, "teach", x -> x.teach(0, 1));
    }

    private static void machineChangesNothing() {
        e.sentence("what the machine finds: NULL -11, INDEX -13, SIZE -14");
        Supplier<RobbedOnce> town = RefusalsTest::lived;
        stays(town, "grown", x -> x.grown(1, 3, 0, 0, 1, 0), NULL);
        stays(town, "grown", x -> x.grown(1, 0, 0, 0, 1, 0), CAST);
        stays(town, "grown", x -> x.grown(1, 0, 1, 3, 1, 0), INDEX);
        stays(town, "film", x -> x.film(1, 1, 3, 0, 0), NULL);
        stays(town, "film", x -> x.film(1, 1, 0, 0, 0), CAST);
        stays(town, "film", x -> x.film(1, 4, 0, 1, 0), INDEX);
        stays(town, "film", x -> x.film(1, 2, 0, 1, 2), INDEX);
        stays(town, "sheet", x -> x.sheet(0, 0, -1), SIZE);
        stays(town, "drop", x -> x.drop(3), NULL);
        stays(town, "item", x -> x.item(3, 0, 0, 1), NULL);
        stays(town, "item", x -> x.item(0, 0, 0, 1), CAST);
        stays(town, "item", x -> x.item(0, 1, 3, 1), INDEX);
        stays(town, "copy", x -> x.copy(3, 0, 0, 0, 1), NULL);
        stays(town, "copy", x -> x.copy(0, 0, 3, 0, 1), NULL);
        stays(town, "copy", x -> x.copy(0, 0, 1, 0, 1), CAST);
        stays(town, "copy", x -> x.copy(0, 0, 0, 1, 3), INDEX);
        changes(town, "film", x -> x.film(1, 3, 0, 1, 0));
    }

    private static void butAsTold() {
        e.sentence("THE TAPE, which is empty then, is a TOWN: how many APPRENTICES. A FAULT (all else stays).");
        RobbedOnce x = lived();
        e.at("a fault", x.town(), -22);
        RobbedOnce y = lived();
        e.inside("the tape is empty", x.type('9') - y.type('9'), 1 - 3);
        x.type(';');
        x.type('9');
        y.town();
        y.type('9');
        y.type(';');
        y.type('9');
        e.outside("all else stays", Trace.of(x), Trace.of(y));
        RobbedOnce z = lived();
        z.town();
        z.type('9');
        z.type(';');
        e.outside("all else stays", Trace.of(z), Trace.of(lived()));
    }

    private static void calls() {
        e.sentence("An object is used for at most 512 calls after it has been made");
        RobbedOnce x = new RobbedOnce();
        x.apprentice(0, 0, 9);
        x.thief(8, 4);
        int last = 0;
        for (int call = 3; call <= 511; call++) {
            last = x.nights(19);
        }
        e.inside("the 511th", last, 0);
        e.at("the 512th", x.ahead(0, 0), 99);
        e.outside("the 513th", answers(x), 1);
    }

    /** What a call behind the 512th answers is free, but it may not throw. */
    private static int answers(RobbedOnce x) {
        x.nights(1);
        return 1;
    }
}
