/** A town in which nobody is admitted to a trade before he was robbed of what he held dearest. */
public final class RobbedOnce {
    public static final int BAD = -1, NOT = -2, FULL = -3, NONE = -4, NULL = -11, CAST = -12, INDEX = -13, SIZE = -14;

    private static final int MOST_APPRENTICES = 6, MOST_THIEVES = 4;
    private static final int KINDS = 5, SORTS = 4, ANY_SORT = 4, MOST_DEGREE = 9;
    private static final int MOST_DEAR = 99, MOST_BAR = 99, FIRST_BAR = 10, FIRST_DRAW = 1;
    private static final int LAST_NIGHT = 9999, MOST_NIGHTS = 40, MOST_FORETOLD = 99, MOST_HIDING = 20;
    private static final int MOST_UNDOABLE = 8, MOST_LETTERS = 80, FIRST_FAULT = -20;
    private static final int SHEETS = 4, LANES = 4, MOST_ITEMS = 24, MOST_GROWN = 8;

    private final Town now = new Town();
    private final Past past = new Past();
    private final Town keptTown = new Town();
    private final Past keptPast = new Past();
    private boolean kept;
    private final Foretelling foretelling = new Foretelling();
    private final Tape tape = new Tape();
    private final Town written = new Town();
    private final Sheet[] sheets = new Sheet[SHEETS];

    public RobbedOnce() {
        for (int s = 0; s < SHEETS; s++) {
            sheets[s] = new Sheet();
        }
    }

    // ---- 1 apprentices, thieves

    public int apprentice(int kind, int sort, int careful) {
        if (!isWithin(kind, 0, KINDS - 1) || !isWithin(sort, 0, SORTS - 1) || !isWithin(careful, 0, MOST_DEGREE)) {
            return BAD;
        }
        if (now.apprentices >= MOST_APPRENTICES) {
            return FULL;
        }
        past.forget();
        return now.addApprentice(kind, sort, careful);
    }

    public int thief(int skill, int wants) {
        if (!isWithin(skill, 0, MOST_DEGREE) || !isWithin(wants, 0, ANY_SORT)) {
            return BAD;
        }
        if (now.thieves >= MOST_THIEVES) {
            return FULL;
        }
        past.forget();
        return now.addThief(skill, wants);
    }

    public int bar(int v) {
        if (!isWithin(v, 0, MOST_BAR)) {
            return BAD;
        }
        int before = now.bar;
        now.bar = v;
        return before;
    }

    public int of(int apprentice, int what) {
        if (!isApprentice(apprentice)) {
            return BAD;
        }
        switch (what) {
            case 0: return now.kind[apprentice];
            case 1: return now.sort[apprentice];
            case 2: return now.dear[apprentice];
            case 3: return now.careful[apprentice];
            case 4: return has(now.shows, apprentice) ? 1 : 0;
            case 5: return has(now.sworn, apprentice) ? 1 : 0;
            case 6: return now.thievesWhoMayRob(apprentice);
            default: return BAD;
        }
    }

    public int at(int thief, int what) {
        if (!isThief(thief)) {
            return BAD;
        }
        switch (what) {
            case 0: return now.skill[thief];
            case 1: return now.wants[thief];
            case 2: return now.whomMayRob(thief);
            default: return BAD;
        }
    }

    public int type(int letter) {
        if (!isWithin(letter, 32, 126)) {
            return BAD;
        }
        if (tape.size >= MOST_LETTERS) {
            return FULL;
        }
        return tape.add(letter);
    }

    public int town() {
        boolean stands = tape.readTown(written);
        int fault = FIRST_FAULT - tape.place;
        tape.clear();
        if (!stands) {
            return fault;
        }
        written.draw = now.draw;
        now.become(written);
        past.forget();
        return now.apprentices;
    }

    public int count(int what) {
        switch (what) {
            case 0: return now.apprentices;
            case 1: return now.thieves;
            case 2: return now.night;
            case 3: return now.bar;
            case 4: return now.sworn;
            case 5: return now.shows;
            case 6: return now.dearTogether();
            case 7: return past.known;
            default: return BAD;
        }
    }

    // ---- what is done

    public int nights(int n) {
        return spend(n, false);
    }

    public int show(int apprentice, int is) {
        if (!isApprentice(apprentice) || !isWithin(is, 0, 1)) {
            return BAD;
        }
        if (has(now.sworn, apprentice) || has(now.shows, apprentice) == (is == 1)) {
            return NOT;
        }
        past.keep(now);
        now.setShown(apprentice, is == 1);
        return now.shows;
    }

    public int teach(int apprentice, int careful) {
        if (!isApprentice(apprentice) || !isWithin(careful, 0, MOST_DEGREE)) {
            return BAD;
        }
        int before = now.careful[apprentice];
        if (before == careful) {
            return NOT;
        }
        past.keep(now);
        now.careful[apprentice] = careful;
        return before;
    }

    public int drift(int n) {
        return spend(n, true);
    }

    public int undo() {
        if (past.known == 0) {
            return NONE;
        }
        past.takeBack(now);
        return past.known;
    }

    public int seed(int v) {
        if (v < 0) {
            return BAD;
        }
        int before = now.draw;
        now.draw = v;
        return before;
    }

    // ---- 2 foretold

    public int ahead(int apprentice, int n) {
        if (!isApprentice(apprentice) || !isWithin(n, 0, MOST_FORETOLD)) {
            return BAD;
        }
        return foretelling.after(now, n).dear[apprentice];
    }

    public int then(int n) {
        if (!isWithin(n, 0, MOST_FORETOLD)) {
            return BAD;
        }
        return foretelling.after(now, n).sworn;
    }

    public int sworn(int apprentice) {
        if (!isApprentice(apprentice)) {
            return BAD;
        }
        return foretelling.nightsUntilSworn(now, apprentice);
    }

    public int robs(int thief) {
        if (!isThief(thief)) {
            return BAD;
        }
        return now.victimTonight(thief);
    }

    public int hides(int apprentice, int what) {
        if (!isApprentice(apprentice) || !isWithin(what, 0, 1)) {
            return BAD;
        }
        return foretelling.bestHiding(now, apprentice, what == 0);
    }

    public int cover(int apprentice, int n, int what) {
        if (!isApprentice(apprentice) || !isWithin(n, 1, MOST_NIGHTS) || !isWithin(what, 0, 1)) {
            return BAD;
        }
        int hidden = foretelling.leastCover(now, apprentice, n);
        return hidden < 0 || what == 1 ? hidden : Integer.bitCount(hidden);
    }

    public int low(int n) {
        if (!isWithin(n, 1, MOST_NIGHTS)) {
            return BAD;
        }
        return foretelling.greatestBar(now, n);
    }

    public int spare(int n, int what) {
        if (!isWithin(n, 1, MOST_NIGHTS) || !isWithin(what, 0, 1)) {
            return BAD;
        }
        int thief = foretelling.sparedThief(now, n);
        return thief < 0 || what == 0 ? thief : foretelling.swornWithout(now, thief, n);
    }

    public int match() {
        return now.mostRobbedAtOnce();
    }

    public int care(int apprentice, int n) {
        if (!isApprentice(apprentice) || !isWithin(n, 1, MOST_NIGHTS)) {
            return BAD;
        }
        return foretelling.mostCareful(now, apprentice, n);
    }

    public int leave(int apprentice, int c, int what) {
        if (!isApprentice(apprentice) || !isWithin(c, 0, 10) || !isWithin(what, 0, 1)) {
            return BAD;
        }
        int above = now.waysRobbed(apprentice, c);
        int below = power(10, now.thieves);
        // Below stands a power of ten, so 2 and 5 are all that can be shortened by.
        for (int i = 0; i < MOST_THIEVES; i++) {
            if (above % 2 == 0 && below % 2 == 0) {
                above /= 2;
                below /= 2;
            }
            if (above % 5 == 0 && below % 5 == 0) {
                above /= 5;
                below /= 5;
            }
        }
        return what == 0 ? above : below;
    }

    public int image() {
        keptTown.become(now);
        keptPast.become(past);
        kept = true;
        return 1;
    }

    public int restore() {
        if (!kept) {
            return NONE;
        }
        now.become(keptTown);
        past.become(keptPast);
        return 1;
    }

    // ---- 3 sheets 0 .. 3: nothing (at first), or a row of a LANE: 0 bytes, 1 shorts, 2 ints, 3 longs, of 0 to 24 items

    public int grown(int apprentice, int sheet, int lane, int i, int n, int what) {
        if (!isApprentice(apprentice) || !isSheet(sheet) || !isLane(lane)) {
            return BAD;
        }
        if (!isWithin(n, 1, MOST_GROWN) || !isWithin(what, 0, 2)) {
            return BAD;
        }
        Sheet row = sheets[sheet];
        int refusal = row.refusal(lane, i, n);
        if (refusal < 0) {
            return refusal;
        }
        if (what == 0) {
            return foretelling.kindsTold(now, apprentice, row, i, n);
        }
        return foretelling.numbersTold(now, apprentice, row, i, n, what == 2);
    }

    public int film(int apprentice, int n, int sheet, int lane, int i) {
        if (!isApprentice(apprentice) || !isWithin(n, 1, MOST_ITEMS) || !isSheet(sheet) || !isLane(lane)) {
            return BAD;
        }
        Sheet row = sheets[sheet];
        int refusal = row.refusal(lane, i, n);
        if (refusal < 0) {
            return refusal;
        }
        foretelling.tell(now, apprentice, row, i, n);
        return n;
    }

    public int sheet(int sheet, int lane, int n) {
        if (!isSheet(sheet) || !isLane(lane) || n > MOST_ITEMS) {
            return BAD;
        }
        if (n < 0) {
            return SIZE;
        }
        sheets[sheet].begin(lane, n);
        return n;
    }

    public int drop(int sheet) {
        if (!isSheet(sheet)) {
            return BAD;
        }
        Sheet row = sheets[sheet];
        if (row.lane == Sheet.NOTHING) {
            return NULL;
        }
        int had = row.size;
        row.end();
        return had;
    }

    public int item(int sheet, int lane, int i, long v) {
        if (!isSheet(sheet) || !isLane(lane)) {
            return BAD;
        }
        Sheet row = sheets[sheet];
        int refusal = row.refusal(lane, i, 1);
        if (refusal < 0) {
            return refusal;
        }
        row.put(i, v);
        return 1;
    }

    public int copy(int from, int i, int to, int j, int n) {
        if (!isSheet(from) || !isSheet(to)) {
            return BAD;
        }
        Sheet source = sheets[from];
        Sheet target = sheets[to];
        if (source.lane == Sheet.NOTHING || target.lane == Sheet.NOTHING) {
            return NULL;
        }
        if (source.lane != target.lane) {
            return CAST;
        }
        if (!source.holds(i, n) || !target.holds(j, n)) {
            return INDEX;
        }
        System.arraycopy(source.items, i, target.items, j, n);
        return n;
    }

    // ---- what all of it uses

    private int spend(int n, boolean drifting) {
        if (!isWithin(n, 1, MOST_NIGHTS)) {
            return BAD;
        }
        if (now.night > LAST_NIGHT - n) {
            return FULL;
        }
        for (int i = 0; i < n; i++) {
            past.keep(now);
            if (drifting) {
                now.drawWhoShows();
            }
            now.pass(0);
        }
        return now.sworn;
    }

    private boolean isApprentice(int a) {
        return a >= 0 && a < now.apprentices;
    }

    private boolean isThief(int t) {
        return t >= 0 && t < now.thieves;
    }

    private static boolean isSheet(int s) {
        return s >= 0 && s < SHEETS;
    }

    private static boolean isLane(int lane) {
        return lane >= 0 && lane < LANES;
    }

    private static boolean isWithin(int v, int least, int most) {
        return v >= least && v <= most;
    }

    private static boolean has(int set, int member) {
        return ((set >> member) & 1) == 1;
    }

    private static int power(int base, int exponent) {
        int result = 1;
        for (int i = 0; i < exponent && i < MOST_THIEVES; i++) {
            result *= base;
        }
        return result;
    }

    /** All that a night looks at and changes. Sets are bits. */
    private static final class Town {
        private static final int FOND = 1, CARELESS = 2, DOTING = 3, RICH = 4;
        private static final int PLAIN_GROWTH = 2, SHOWN_GROWTH = 3, RICH_LIMIT = 6;

        private final int[] kind = new int[MOST_APPRENTICES];
        private final int[] sort = new int[MOST_APPRENTICES];
        private final int[] dear = new int[MOST_APPRENTICES];
        private final int[] careful = new int[MOST_APPRENTICES];
        private final int[] skill = new int[MOST_THIEVES];
        private final int[] wants = new int[MOST_THIEVES];
        private int apprentices, thieves, shows, sworn, night;
        private int bar = FIRST_BAR;
        private int draw = FIRST_DRAW;

        private void become(Town other) {
            System.arraycopy(other.kind, 0, kind, 0, MOST_APPRENTICES);
            System.arraycopy(other.sort, 0, sort, 0, MOST_APPRENTICES);
            System.arraycopy(other.dear, 0, dear, 0, MOST_APPRENTICES);
            System.arraycopy(other.careful, 0, careful, 0, MOST_APPRENTICES);
            System.arraycopy(other.skill, 0, skill, 0, MOST_THIEVES);
            System.arraycopy(other.wants, 0, wants, 0, MOST_THIEVES);
            apprentices = other.apprentices;
            thieves = other.thieves;
            shows = other.shows;
            sworn = other.sworn;
            night = other.night;
            bar = other.bar;
            draw = other.draw;
        }

        private void empty() {
            apprentices = 0;
            thieves = 0;
            shows = 0;
            sworn = 0;
            night = 0;
        }

        private int addApprentice(int ofKind, int ofSort, int carefulBy) {
            int a = apprentices;
            if (a >= MOST_APPRENTICES) {
                return FULL;
            }
            kind[a] = ofKind;
            sort[a] = ofSort;
            dear[a] = 0;
            careful[a] = carefulBy;
            setShown(a, true);
            apprentices = a + 1;
            return a;
        }

        private int addThief(int ofSkill, int wanting) {
            int t = thieves;
            if (t >= MOST_THIEVES) {
                return FULL;
            }
            skill[t] = ofSkill;
            wants[t] = wanting;
            thieves = t + 1;
            return t;
        }

        private void setShown(int a, boolean shown) {
            shows = shown ? shows | (1 << a) : shows & ~(1 << a);
        }

        private int everybody() {
            return (1 << apprentices) - 1;
        }

        private int dearTogether() {
            int sum = 0;
            for (int a = 0; a < apprentices; a++) {
                if (!has(sworn, a)) {
                    sum += dear[a];
                }
            }
            return sum;
        }

        private boolean mayRob(int t, int a) {
            boolean isOpen = (shows & ~sworn & (1 << a)) != 0;
            return isOpen && careful[a] <= skill[t] && (wants[t] == ANY_SORT || wants[t] == sort[a]);
        }

        private int whomMayRob(int t) {
            int set = 0;
            for (int a = 0; a < apprentices; a++) {
                if (mayRob(t, a)) {
                    set |= 1 << a;
                }
            }
            return set;
        }

        private int thievesWhoMayRob(int a) {
            int set = 0;
            for (int t = 0; t < thieves; t++) {
                if (mayRob(t, a)) {
                    set |= 1 << t;
                }
            }
            return set;
        }

        /** Whom a thief robs once those told were robbed; NONE. */
        private int victim(int t, int robbed) {
            int best = NONE;
            for (int a = 0; a < apprentices; a++) {
                if (!has(robbed, a) && mayRob(t, a) && (best < 0 || dear[a] > dear[best])) {
                    best = a;
                }
            }
            return best;
        }

        /** Who is robbed in this night if some thieves (a set) stay at home; nothing is changed. */
        private int robbedTonight(int atHome) {
            int robbed = 0;
            for (int t = 0; t < thieves; t++) {
                int a = has(atHome, t) ? NONE : victim(t, robbed);
                if (a >= 0) {
                    robbed |= 1 << a;
                }
            }
            return robbed;
        }

        private int victimTonight(int t) {
            // Those behind it rob after it: it matters only who came ahead.
            int fromItOn = -1 << t;
            return victim(t, robbedTonight(fromItOn));
        }

        /** One night, some thieves (a set) being away from it. */
        private void pass(int away) {
            int robbed = robbedTonight(away);
            for (int a = 0; a < apprentices; a++) {
                if (has(robbed, a)) {
                    lose(a);
                } else if (!has(sworn, a)) {
                    dear[a] = Math.min(MOST_DEAR, dear[a] + growth(a));
                }
            }
            night++;
        }

        private void lose(int a) {
            if (dear[a] >= bar) {
                sworn |= 1 << a;
            } else {
                sort[a] = (sort[a] + 1) % SORTS;
                dear[a] = 0;
            }
        }

        private int growth(int a) {
            int fond = 2 * PLAIN_GROWTH;
            int careless = night % 2 == 1 ? PLAIN_GROWTH : 0;
            switch (kind[a]) {
                case FOND: return fond;
                case CARELESS: return careless;
                case DOTING: return has(shows, a) ? fond + SHOWN_GROWTH : fond;
                case RICH: return Math.min(careless, Math.max(0, RICH_LIMIT - dear[a]));
                default: return PLAIN_GROWTH;
            }
        }

        private void drawWhoShows() {
            draw = (draw * 1103515245 + 12345) & 0x7FFFFFFF;
            if (apprentices > 0) {
                setShown(draw / 65536 % apprentices, draw / 128 % 2 == 0);
            }
        }

        /** How many could be robbed at once: what the worst set of thieves must go without (Hall, Ore) is missing. */
        private int mostRobbedAtOnce() {
            int most = thieves;
            for (int set = 0; set < (1 << thieves); set++) {
                int reached = 0;
                for (int t = 0; t < thieves; t++) {
                    if (has(set, t)) {
                        reached |= whomMayRob(t);
                    }
                }
                most = Math.min(most, thieves - Integer.bitCount(set) + Integer.bitCount(reached));
            }
            return most;
        }

        /** In how many of 10 to the power of thieves ways one is robbed, if each stays at home in c of 10. */
        private int waysRobbed(int a, int c) {
            int ways = 0;
            for (int atHome = 0; atHome < (1 << thieves); atHome++) {
                if (has(robbedTonight(atHome), a)) {
                    int absent = Integer.bitCount(atHome);
                    ways += power(c, absent) * power(10 - c, thieves - absent);
                }
            }
            return ways;
        }
    }

    /** What may be undone: the town as it was, in a ring. */
    private static final class Past {
        private final Town[] moments = new Town[MOST_UNDOABLE];
        private int next;
        private int known;

        private Past() {
            for (int m = 0; m < MOST_UNDOABLE; m++) {
                moments[m] = new Town();
            }
        }

        private void keep(Town town) {
            moments[next].become(town);
            next = (next + 1) % MOST_UNDOABLE;
            known = Math.min(MOST_UNDOABLE, known + 1);
        }

        private void takeBack(Town town) {
            if (known > 0) {
                next = (next + MOST_UNDOABLE - 1) % MOST_UNDOABLE;
                known--;
                // The bar is not among what is undone.
                int bar = town.bar;
                town.become(moments[next]);
                town.bar = bar;
            }
        }

        private void forget() {
            known = 0;
        }

        private void become(Past other) {
            for (int m = 0; m < MOST_UNDOABLE; m++) {
                moments[m].become(other.moments[m]);
            }
            next = other.next;
            known = other.known;
        }
    }

    /** Tries nights on a town of its own, so that nothing is changed. */
    private static final class Foretelling {
        private final Town trial = new Town();

        private Town after(Town now, int n) {
            trial.become(now);
            passNights(n, 0);
            return trial;
        }

        private void passNights(int n, int away) {
            for (int i = 0; i < n; i++) {
                trial.pass(away);
            }
        }

        private int nightsUntilSworn(Town now, int a) {
            trial.become(now);
            for (int n = 0; n < MOST_FORETOLD; n++) {
                if (has(trial.sworn, a)) {
                    return n;
                }
                trial.pass(0);
            }
            return has(trial.sworn, a) ? MOST_FORETOLD : NONE;
        }

        /** How long one had better hide its thing, or behind how many nights it is sworn then; NONE. */
        private int bestHiding(Town now, int a, boolean howLong) {
            if (has(now.sworn, a)) {
                return 0;
            }
            int best = NONE;
            int soonest = MOST_FORETOLD + 1;
            for (int hidden = 0; hidden <= MOST_HIDING; hidden++) {
                int n = nightsIfHidden(now, a, hidden, soonest - 1);
                if (n >= 0) {
                    best = hidden;
                    soonest = n;
                }
            }
            return best < 0 || howLong ? best : soonest;
        }

        private int nightsIfHidden(Town now, int a, int hidden, int within) {
            trial.become(now);
            for (int n = 0; n < within; n++) {
                trial.setShown(a, n >= hidden);
                trial.pass(0);
                if (has(trial.sworn, a)) {
                    return n + 1;
                }
            }
            return NONE;
        }

        private int leastCover(Town now, int a, int n) {
            int others = now.shows & ~(1 << a);
            int best = NONE;
            for (int set = 0; set < (1 << MOST_APPRENTICES); set++) {
                boolean fewer = best < 0 || Integer.bitCount(set) < Integer.bitCount(best);
                if (!fewer || (set & ~others) != 0) {
                    continue;
                }
                trial.become(now);
                trial.shows &= ~set;
                passNights(n, 0);
                if (has(trial.sworn, a)) {
                    best = set;
                }
            }
            return best;
        }

        private int greatestBar(Town now, int n) {
            for (int bar = MOST_BAR; bar >= 0; bar--) {
                trial.become(now);
                trial.bar = bar;
                passNights(n, 0);
                if (trial.sworn == trial.everybody()) {
                    return bar;
                }
            }
            return NONE;
        }

        private int sparedThief(Town now, int n) {
            int best = NONE;
            int most = -1;
            for (int t = 0; t < now.thieves; t++) {
                int sworn = swornWithout(now, t, n);
                if (sworn > most) {
                    best = t;
                    most = sworn;
                }
            }
            return best;
        }

        private int swornWithout(Town now, int t, int n) {
            trial.become(now);
            passNights(n, 1 << t);
            return Integer.bitCount(trial.sworn);
        }

        private int mostCareful(Town now, int a, int n) {
            for (int careful = MOST_DEGREE; careful >= 0; careful--) {
                trial.become(now);
                trial.careful[a] = careful;
                passNights(n, 0);
                if (has(trial.sworn, a)) {
                    return careful;
                }
            }
            return NONE;
        }

        private int kindsTold(Town now, int a, Sheet row, int from, int n) {
            int set = 0;
            for (int kind = 0; kind < KINDS; kind++) {
                trial.become(now);
                trial.kind[a] = kind;
                if (goesAsTold(a, row, from, n)) {
                    set |= 1 << kind;
                }
            }
            return set;
        }

        /** By how many numbers a thing might be dear now, or the least of them; NONE. */
        private int numbersTold(Town now, int a, Sheet row, int from, int n, boolean least) {
            int many = 0;
            for (int dear = 0; dear <= MOST_DEAR; dear++) {
                trial.become(now);
                trial.dear[a] = dear;
                if (goesAsTold(a, row, from, n)) {
                    if (least) {
                        return dear;
                    }
                    many++;
                }
            }
            return least ? NONE : many;
        }

        private boolean goesAsTold(int a, Sheet row, int from, int n) {
            for (int i = 0; i < n; i++) {
                trial.pass(0);
                if (row.items[from + i] != trial.dear[a]) {
                    return false;
                }
            }
            return true;
        }

        private void tell(Town now, int a, Sheet row, int from, int n) {
            trial.become(now);
            for (int i = 0; i < n; i++) {
                trial.pass(0);
                row.put(from + i, trial.dear[a]);
            }
        }
    }

    /** The letters that were typed, and how a town is read from them. */
    private static final class Tape {
        private static final int END = -1;
        private static final String KIND_LETTERS = "pfcdr";

        private final char[] letters = new char[MOST_LETTERS];
        private int size;
        private int place;

        private int add(int letter) {
            if (size < MOST_LETTERS) {
                letters[size] = (char) letter;
                size++;
            }
            return size;
        }

        private void clear() {
            size = 0;
        }

        /** Whether a town is written here; else place is where it can't go on. */
        private boolean readTown(Town town) {
            place = 0;
            town.empty();
            int bar = readNumber();
            if (bar < 0 || !takes(';')) {
                return false;
            }
            town.bar = bar;
            if (!readApprentices(town)) {
                return false;
            }
            if (takes(';') && !readThieves(town)) {
                return false;
            }
            return peek() == END;
        }

        private boolean readApprentices(Town town) {
            for (int i = 0; i < MOST_APPRENTICES; i++) {
                if (i > 0 && !takes(',')) {
                    return true;
                }
                if (!readApprentice(town)) {
                    return false;
                }
            }
            return true;
        }

        private boolean readApprentice(Town town) {
            int letter = peek();
            int kind = letter == END ? -1 : KIND_LETTERS.indexOf((char) letter);
            if (kind < 0) {
                return false;
            }
            place++;
            int sort = readDigit(SORTS - 1);
            int careful = sort < 0 ? -1 : readDigit(MOST_DEGREE);
            if (careful < 0) {
                return false;
            }
            int dear = takes('=') ? readNumber() : 0;
            if (dear < 0) {
                return false;
            }
            int a = town.addApprentice(kind, sort, careful);
            if (a < 0) {
                return false;
            }
            town.dear[a] = dear;
            town.setShown(a, !takes('x'));
            return true;
        }

        private boolean readThieves(Town town) {
            for (int i = 0; i < MOST_THIEVES; i++) {
                if (i > 0 && !takes(',')) {
                    return true;
                }
                int skill = readDigit(MOST_DEGREE);
                int wants = skill < 0 ? -1 : readDigit(ANY_SORT);
                if (wants < 0) {
                    return false;
                }
                town.addThief(skill, wants);
            }
            return true;
        }

        /** The next letter that is no blank, which place is at then; END. */
        private int peek() {
            while (place < size && letters[place] == ' ') {
                place++;
            }
            return place < size ? letters[place] : END;
        }

        private boolean takes(char letter) {
            boolean there = peek() == letter;
            if (there) {
                place++;
            }
            return there;
        }

        private int readDigit(int most) {
            int digit = peek() - '0';
            if (digit < 0 || digit > most) {
                return -1;
            }
            place++;
            return digit;
        }

        private int readNumber() {
            int number = readDigit(9);
            // A blank would end it, so the second digit has to stand right behind the first.
            if (number < 0 || place >= size || letters[place] == ' ') {
                return number;
            }
            int second = readDigit(9);
            return second < 0 ? number : 10 * number + second;
        }
    }

    /** A row of a lane, or nothing. Items are kept as longs, cut to their lane when they come. */
    private static final class Sheet {
        private static final int NOTHING = -1, BYTES = 0, SHORTS = 1, INTS = 2;

        private final long[] items = new long[MOST_ITEMS];
        private int lane = NOTHING;
        private int size;

        private void begin(int ofLane, int n) {
            for (int i = 0; i < MOST_ITEMS; i++) {
                items[i] = 0;
            }
            lane = ofLane;
            size = n;
        }

        private void end() {
            lane = NOTHING;
            size = 0;
        }

        private boolean holds(int i, int n) {
            return i >= 0 && n >= 0 && i <= size - n;
        }

        /** Why n items from i on of a lane can't be had, or 0. */
        private int refusal(int ofLane, int i, int n) {
            if (lane == NOTHING) {
                return NULL;
            }
            if (lane != ofLane) {
                return CAST;
            }
            return holds(i, n) ? 0 : INDEX;
        }

        private void put(int i, long v) {
            switch (lane) {
                case BYTES:
                    items[i] = (byte) v;
                    break;
                case SHORTS:
                    items[i] = (short) v;
                    break;
                case INTS:
                    items[i] = (int) v;
                    break;
                default:
                    items[i] = v;
                    break;
            }
        }
    }
}
