import java.lang.reflect.Array;
import java.math.BigInteger;
import java.util.ArrayDeque;
import java.util.ArrayList;
import java.util.Deque;
import java.util.List;
import java.util.Objects;
import java.util.regex.Matcher;
import java.util.regex.Pattern;

/** The document told a second time, by other means: what RobbedOnce answers is held against it. */
final class Model {
    private static final int BAD = -1, NOT = -2, FULL = -3, NONE = -4, NULL = -11, CAST = -12, INDEX = -13, SIZE = -14;

    private static class Plain {
        int more(Boy b, int night) {
            return 2;
        }

        int next(Boy b, int night) {
            return Math.min(99, b.dear + more(b, night));
        }
    }

    private static class Fond extends Plain {
        @Override int more(Boy b, int night) {
            return 2 * super.more(b, night);
        }
    }

    private static class Careless extends Plain {
        @Override int more(Boy b, int night) {
            return night % 2 == 0 ? 0 : super.more(b, night);
        }
    }

    private static class Doting extends Fond {
        @Override int more(Boy b, int night) {
            return super.more(b, night) + (b.shows ? 3 : 0);
        }
    }

    private static class Rich extends Careless {
        @Override int next(Boy b, int night) {
            return b.dear > 6 ? b.dear : Math.min(6, super.next(b, night));
        }
    }

    private static final List<Plain> KINDS = List.of(new Plain(), new Fond(), new Careless(), new Doting(), new Rich());

    private static final class Boy {
        int kind, sort, dear, careful;
        boolean shows = true, sworn;

        Boy(int kind, int sort, int careful) {
            this.kind = kind;
            this.sort = sort;
            this.careful = careful;
        }

        Boy twin() {
            Boy b = new Boy(kind, sort, careful);
            b.dear = dear;
            b.shows = shows;
            b.sworn = sworn;
            return b;
        }
    }

    private record Thief(int skill, int wants) {
        boolean may(Boy b) {
            return b.shows && !b.sworn && b.careful <= skill && (wants == 4 || b.sort == wants);
        }
    }

    private static final class World {
        final List<Boy> boys = new ArrayList<>();
        final List<Thief> thieves = new ArrayList<>();
        int bar = 10, night = 0;
        int draw = 1;

        World twin() {
            World w = new World();
            for (Boy b : boys) {
                w.boys.add(b.twin());
            }
            w.thieves.addAll(thieves);
            w.bar = bar;
            w.night = night;
            w.draw = draw;
            return w;
        }

        Boy dearest(Thief t, List<Boy> robbed) {
            Boy best = null;
            for (Boy b : boys) {
                if (t.may(b) && !robbed.contains(b) && (best == null || b.dear > best.dear)) {
                    best = b;
                }
            }
            return best;
        }

        World pass(int n) {
            for (int i = 0; i < n; i++) {
                List<Boy> robbed = new ArrayList<>();
                for (Thief t : thieves) {
                    Boy b = dearest(t, robbed);
                    if (b != null) {
                        robbed.add(b);
                        if (b.dear >= bar) {
                            b.sworn = true;
                        } else {
                            b.sort = b.sort == 3 ? 0 : b.sort + 1;
                            b.dear = 0;
                        }
                    }
                }
                for (Boy b : boys) {
                    if (!b.sworn && !robbed.contains(b)) {
                        b.dear = KINDS.get(b.kind).next(b, night);
                    }
                }
                night++;
            }
            return this;
        }

        int swornSet() {
            int set = 0;
            for (int a = 0; a < boys.size(); a++) {
                set += boys.get(a).sworn ? 1 << a : 0;
            }
            return set;
        }

        int showSet() {
            int set = 0;
            for (int a = 0; a < boys.size(); a++) {
                set += boys.get(a).shows ? 1 << a : 0;
            }
            return set;
        }
    }

    private World w = new World();
    private Deque<World> past = new ArrayDeque<>();
    private World imageWorld;
    private Deque<World> imagePast;
    private final StringBuilder tape = new StringBuilder();
    private final Object[] sheets = new Object[4];

    private boolean noBoy(int a) {
        return a < 0 || a >= w.boys.size();
    }

    private static boolean out(int v, int least, int most) {
        return v < least || v > most;
    }

    private void remember() {
        past.addLast(w.twin());
        if (past.size() > 8) {
            past.removeFirst();
        }
    }

    int apprentice(int kind, int sort, int careful) {
        if (out(kind, 0, 4) || out(sort, 0, 3) || out(careful, 0, 9)) {
            return BAD;
        }
        if (w.boys.size() == 6) {
            return FULL;
        }
        past.clear();
        w.boys.add(new Boy(kind, sort, careful));
        return w.boys.size() - 1;
    }

    int thief(int skill, int wants) {
        if (out(skill, 0, 9) || out(wants, 0, 4)) {
            return BAD;
        }
        if (w.thieves.size() == 4) {
            return FULL;
        }
        past.clear();
        w.thieves.add(new Thief(skill, wants));
        return w.thieves.size() - 1;
    }

    int bar(int v) {
        if (out(v, 0, 99)) {
            return BAD;
        }
        int was = w.bar;
        w.bar = v;
        return was;
    }

    int of(int a, int what) {
        if (noBoy(a) || out(what, 0, 6)) {
            return BAD;
        }
        Boy b = w.boys.get(a);
        int set = 0;
        for (int t = 0; t < w.thieves.size(); t++) {
            set += w.thieves.get(t).may(b) ? 1 << t : 0;
        }
        return new int[] {b.kind, b.sort, b.dear, b.careful, b.shows ? 1 : 0, b.sworn ? 1 : 0, set}[what];
    }

    int at(int t, int what) {
        if (out(t, 0, w.thieves.size() - 1) || out(what, 0, 2)) {
            return BAD;
        }
        Thief f = w.thieves.get(t);
        int set = 0;
        for (int a = 0; a < w.boys.size(); a++) {
            set += f.may(w.boys.get(a)) ? 1 << a : 0;
        }
        return new int[] {f.skill(), f.wants(), set}[what];
    }

    int type(int letter) {
        if (out(letter, 32, 126)) {
            return BAD;
        }
        if (tape.length() == 80) {
            return FULL;
        }
        return tape.append((char) letter).length();
    }

    private static final String BOY = "([pfcdr]) *([0-3]) *(\\d)(?: *= *(\\d\\d?))?( *x)?";
    private static final String THIEF = "(\\d) *([0-4])";
    private static final Pattern TOWN = Pattern.compile(" *(\\d\\d?) *; *(B(?: *, *B){0,5}) *(?:; *(T(?: *, *T){0,3}) *)?"
        .replace("B", BOY.replaceAll("\\((?!\\?)", "(?:")).replace("T", THIEF.replaceAll("\\((?!\\?)", "(?:")));

    int town() {
        String text = tape.toString();
        tape.setLength(0);
        for (int n = 1; n <= text.length(); n++) {
            Matcher m = TOWN.matcher(text.substring(0, n));
            if (!m.matches() && !m.hitEnd()) {
                return -20 - (n - 1);
            }
        }
        Matcher m = TOWN.matcher(text);
        if (!m.matches()) {
            return -20 - text.length();
        }
        World fresh = new World();
        fresh.draw = w.draw;
        fresh.bar = Integer.parseInt(m.group(1));
        Matcher boys = Pattern.compile(BOY).matcher(m.group(2));
        while (boys.find()) {
            Boy b = new Boy("pfcdr".indexOf(boys.group(1)), Integer.parseInt(boys.group(2)), Integer.parseInt(boys.group(3)));
            b.dear = boys.group(4) == null ? 0 : Integer.parseInt(boys.group(4));
            b.shows = boys.group(5) == null;
            fresh.boys.add(b);
        }
        if (m.group(3) != null) {
            Matcher thieves = Pattern.compile(THIEF).matcher(m.group(3));
            while (thieves.find()) {
                fresh.thieves.add(new Thief(Integer.parseInt(thieves.group(1)), Integer.parseInt(thieves.group(2))));
            }
        }
        w = fresh;
        past.clear();
        return w.boys.size();
    }

    int count(int what) {
        if (out(what, 0, 7)) {
            return BAD;
        }
        int dear = w.boys.stream().filter(b -> !b.sworn).mapToInt(b -> b.dear).sum();
        return new int[] {w.boys.size(), w.thieves.size(), w.night, w.bar, w.swornSet(), w.showSet(), dear, past.size()}[what];
    }

    int nights(int n) {
        if (out(n, 1, 40)) {
            return BAD;
        }
        if (w.night + n > 9999) {
            return FULL;
        }
        for (int i = 0; i < n; i++) {
            remember();
            w.pass(1);
        }
        return w.swornSet();
    }

    int show(int a, int is) {
        if (noBoy(a) || out(is, 0, 1)) {
            return BAD;
        }
        Boy b = w.boys.get(a);
        if (b.sworn || b.shows == (is == 1)) {
            return NOT;
        }
        remember();
        b.shows = is == 1;
        return w.showSet();
    }

    int teach(int a, int careful) {
        if (noBoy(a) || out(careful, 0, 9)) {
            return BAD;
        }
        Boy b = w.boys.get(a);
        if (b.careful == careful) {
            return NOT;
        }
        remember();
        int was = b.careful;
        b.careful = careful;
        return was;
    }

    int drift(int n) {
        if (out(n, 1, 40)) {
            return BAD;
        }
        if (w.night + n > 9999) {
            return FULL;
        }
        for (int i = 0; i < n; i++) {
            remember();
            w.draw = BigInteger.valueOf(w.draw).multiply(BigInteger.valueOf(1103515245)).add(BigInteger.valueOf(12345))
                .mod(BigInteger.TWO.pow(31)).intValueExact();
            if (!w.boys.isEmpty()) {
                w.boys.get(w.draw / 65536 % w.boys.size()).shows = w.draw / 128 % 2 == 0;
            }
            w.pass(1);
        }
        return w.swornSet();
    }

    int undo() {
        if (past.isEmpty()) {
            return NONE;
        }
        int bar = w.bar;
        w = past.removeLast();
        w.bar = bar;
        return past.size();
    }

    int seed(int v) {
        if (v < 0) {
            return BAD;
        }
        int was = w.draw;
        w.draw = v;
        return was;
    }

    int ahead(int a, int n) {
        return noBoy(a) || out(n, 0, 99) ? BAD : w.twin().pass(n).boys.get(a).dear;
    }

    int then(int n) {
        return out(n, 0, 99) ? BAD : w.twin().pass(n).swornSet();
    }

    int sworn(int a) {
        return noBoy(a) ? BAD : firstSworn(w, a, 99);
    }

    private static int firstSworn(World from, int a, int most) {
        World v = from.twin();
        for (int n = 0; n <= most; n++) {
            if (v.boys.get(a).sworn) {
                return n;
            }
            v.pass(1);
        }
        return NONE;
    }

    int robs(int thief) {
        if (out(thief, 0, w.thieves.size() - 1)) {
            return BAD;
        }
        List<Boy> robbed = new ArrayList<>();
        Boy b = null;
        for (int t = 0; t <= thief; t++) {
            b = w.dearest(w.thieves.get(t), robbed);
            if (b != null) {
                robbed.add(b);
            }
        }
        return b == null ? NONE : w.boys.indexOf(b);
    }

    int hides(int a, int what) {
        if (noBoy(a) || out(what, 0, 1)) {
            return BAD;
        }
        if (w.boys.get(a).sworn) {
            return 0;
        }
        int best = -1, soonest = 1000;
        for (int hidden = 0; hidden <= 20; hidden++) {
            World v = w.twin();
            v.boys.get(a).shows = false;
            v.pass(hidden);
            v.boys.get(a).shows = true;
            int more = firstSworn(v, a, 99 - hidden);
            if (more >= 0 && hidden + more < soonest) {
                best = hidden;
                soonest = hidden + more;
            }
        }
        return best < 0 ? NONE : what == 0 ? best : soonest;
    }

    int cover(int a, int n, int what) {
        if (noBoy(a) || out(n, 1, 40) || out(what, 0, 1)) {
            return BAD;
        }
        for (int many = 0; many < 6; many++) {
            for (int set = 0; set < 64; set++) {
                if (Integer.bitCount(set) == many && covers(a, n, set)) {
                    return what == 0 ? many : set;
                }
            }
        }
        return NONE;
    }

    private boolean covers(int a, int n, int set) {
        World v = w.twin();
        for (int o = 0; o < 6; o++) {
            if ((set >> o & 1) == 1) {
                if (o == a || o >= v.boys.size() || !v.boys.get(o).shows) {
                    return false;
                }
                v.boys.get(o).shows = false;
            }
        }
        return v.pass(n).boys.get(a).sworn;
    }

    int low(int n) {
        if (out(n, 1, 40)) {
            return BAD;
        }
        int best = NONE;
        for (int bar = 0; bar < 100; bar++) {
            World v = w.twin();
            v.bar = bar;
            if (v.pass(n).boys.stream().allMatch(b -> b.sworn)) {
                best = bar;
            }
        }
        return best;
    }

    int spare(int n, int what) {
        if (out(n, 1, 40) || out(what, 0, 1)) {
            return BAD;
        }
        int best = NONE, most = NONE;
        for (int t = w.thieves.size() - 1; t >= 0; t--) {
            World v = w.twin();
            v.thieves.remove(t);
            int many = Integer.bitCount(v.pass(n).swornSet());
            if (many >= most) {
                best = t;
                most = many;
            }
        }
        return what == 0 ? best : most;
    }

    int match() {
        return matched(0, new ArrayList<>());
    }

    private int matched(int t, List<Boy> taken) {
        if (t == w.thieves.size()) {
            return taken.size();
        }
        int best = matched(t + 1, taken);
        for (Boy b : w.boys) {
            if (w.thieves.get(t).may(b) && !taken.contains(b)) {
                taken.add(b);
                best = Math.max(best, matched(t + 1, taken));
                taken.remove(b);
            }
        }
        return best;
    }

    int care(int a, int n) {
        if (noBoy(a) || out(n, 1, 40)) {
            return BAD;
        }
        int best = NONE;
        for (int careful = 0; careful < 10; careful++) {
            World v = w.twin();
            v.boys.get(a).careful = careful;
            if (v.pass(n).boys.get(a).sworn) {
                best = careful;
            }
        }
        return best;
    }

    int leave(int a, int c, int what) {
        if (noBoy(a) || out(c, 0, 10) || out(what, 0, 1)) {
            return BAD;
        }
        BigInteger above = BigInteger.valueOf(ways(0, c, w.boys.get(a), new ArrayList<>()));
        BigInteger below = BigInteger.TEN.pow(w.thieves.size());
        return (what == 0 ? above : below).divide(above.gcd(below)).intValueExact();
    }

    private long ways(int t, int c, Boy told, List<Boy> robbed) {
        if (t == w.thieves.size()) {
            return robbed.contains(told) ? 1 : 0;
        }
        long home = c * ways(t + 1, c, told, robbed);
        List<Boy> more = new ArrayList<>(robbed);
        Boy b = w.dearest(w.thieves.get(t), robbed);
        if (b != null) {
            more.add(b);
        }
        return home + (10 - c) * ways(t + 1, c, told, more);
    }

    private static Deque<World> twins(Deque<World> worlds) {
        Deque<World> copies = new ArrayDeque<>();
        for (World v : worlds) {
            copies.addLast(v.twin());
        }
        return copies;
    }

    int image() {
        imageWorld = w.twin();
        imagePast = twins(past);
        return 1;
    }

    int restore() {
        if (imageWorld == null) {
            return NONE;
        }
        w = imageWorld.twin();
        past = twins(imagePast);
        return 1;
    }

    /** What the machine itself finds of a row taken as one of a lane. */
    private int found(int sheet, int lane, int i, int n) {
        try {
            Object row = Objects.requireNonNull(sheets[sheet]);
            Class<?>[] lanes = {byte[].class, short[].class, int[].class, long[].class};
            Objects.checkFromIndexSize(i, n, Array.getLength(lanes[lane].cast(row)));
            return 0;
        } catch (NullPointerException e) {
            return NULL;
        } catch (ClassCastException e) {
            return CAST;
        } catch (IndexOutOfBoundsException e) {
            return INDEX;
        }
    }

    private void set(int sheet, int i, long v) {
        if (sheets[sheet] instanceof byte[] row) {
            row[i] = (byte) v;
        } else if (sheets[sheet] instanceof short[] row) {
            row[i] = (short) v;
        } else if (sheets[sheet] instanceof int[] row) {
            row[i] = (int) v;
        } else if (sheets[sheet] instanceof long[] row) {
            row[i] = v;
        }
    }

    int grown(int a, int sheet, int lane, int i, int n, int what) {
        if (noBoy(a) || out(sheet, 0, 3) || out(lane, 0, 3) || out(n, 1, 8) || out(what, 0, 2)) {
            return BAD;
        }
        int found = found(sheet, lane, i, n);
        if (found != 0) {
            return found;
        }
        int set = 0, many = 0, least = NONE;
        for (int kind = 4; kind >= 0; kind--) {
            World v = w.twin();
            v.boys.get(a).kind = kind;
            set += asTold(v, a, sheets[sheet], i, n) ? 1 << kind : 0;
        }
        for (int dear = 99; dear >= 0; dear--) {
            World v = w.twin();
            v.boys.get(a).dear = dear;
            if (asTold(v, a, sheets[sheet], i, n)) {
                many++;
                least = dear;
            }
        }
        return what == 0 ? set : what == 1 ? many : least;
    }

    private static boolean asTold(World v, int a, Object row, int i, int n) {
        boolean all = true;
        for (int k = 0; k < n; k++) {
            all &= Array.getLong(row, i + k) == v.pass(1).boys.get(a).dear;
        }
        return all;
    }

    int film(int a, int n, int sheet, int lane, int i) {
        if (noBoy(a) || out(n, 1, 24) || out(sheet, 0, 3) || out(lane, 0, 3)) {
            return BAD;
        }
        int found = found(sheet, lane, i, n);
        if (found != 0) {
            return found;
        }
        for (int k = 0; k < n; k++) {
            set(sheet, i + k, ahead(a, k + 1));
        }
        return n;
    }

    int sheet(int sheet, int lane, int n) {
        if (out(sheet, 0, 3) || out(lane, 0, 3) || n > 24) {
            return BAD;
        }
        if (n < 0) {
            return SIZE;
        }
        sheets[sheet] = Array.newInstance(new Class<?>[] {byte.class, short.class, int.class, long.class}[lane], n);
        return n;
    }

    int drop(int sheet) {
        if (out(sheet, 0, 3)) {
            return BAD;
        }
        Object row = sheets[sheet];
        sheets[sheet] = null;
        return row == null ? NULL : Array.getLength(row);
    }

    int item(int sheet, int lane, int i, long v) {
        if (out(sheet, 0, 3) || out(lane, 0, 3)) {
            return BAD;
        }
        int found = found(sheet, lane, i, 1);
        if (found != 0) {
            return found;
        }
        set(sheet, i, v);
        return 1;
    }

    int copy(int from, int i, int to, int j, int n) {
        if (out(from, 0, 3) || out(to, 0, 3)) {
            return BAD;
        }
        try {
            System.arraycopy(sheets[from], i, sheets[to], j, n);
            return n;
        } catch (NullPointerException e) {
            return NULL;
        } catch (ArrayStoreException e) {
            return CAST;
        } catch (IndexOutOfBoundsException e) {
            return INDEX;
        }
    }
}
