import java.util.Random;

/** Runs of drawn calls (always the same ones) on RobbedOnce and on the model: both have to answer alike. */
public final class ModelTest {
    private static final int RUNS = 1500, CALLS = 200;
    private static final int[] ODD = {-1, Integer.MIN_VALUE, Integer.MAX_VALUE, 7, 10, 11, 24, 25, 40, 41, 99, 100};

    private final Due d;
    private final Random r;
    private final RobbedOnce x = new RobbedOnce();
    private final Model m = new Model();

    private ModelTest(Due d, Random r) {
        this.d = d;
        this.r = r;
    }

    public static void main(String[] args) {
        Due d = new Due();
        for (int run = 0; run < RUNS; run++) {
            new ModelTest(d, new Random(run)).run(run);
        }
        d.end();
    }

    private void run(int run) {
        for (int call = 0; call < CALLS; call++) {
            one("run " + run + ", call " + call + ": ");
        }
    }

    /** Mostly 0 .. most, at times something else. */
    private int about(int most) {
        int luck = r.nextInt(40);
        return luck == 0 ? ODD[r.nextInt(ODD.length)] : luck == 1 ? most + 1 : luck == 2 ? most : r.nextInt(most + 1);
    }

    private int boy() {
        return about(Math.max(0, m.count(0) - 1));
    }

    private int nightsOf(int most) {
        return r.nextInt(3) == 0 ? about(most) : about(Math.min(most, 6));
    }

    private String number(int most) {
        return r.nextInt(6) == 0 ? "0" + r.nextInt(10) : String.valueOf(r.nextInt(most));
    }

    private String text() {
        StringBuilder s = new StringBuilder(number(r.nextBoolean() ? 100 : 20)).append(';');
        int boys = 1 + r.nextInt(6), thieves = r.nextInt(5);
        for (int i = 0; i < boys; i++) {
            s.append(i == 0 ? "" : ",").append("pfcdr".charAt(r.nextInt(5))).append(r.nextInt(4)).append(r.nextInt(10));
            s.append(r.nextBoolean() ? "=" + number(40) : "").append(r.nextInt(4) == 0 ? "x" : "");
        }
        for (int i = 0; i < thieves; i++) {
            s.append(i == 0 ? ";" : ",").append(5 + r.nextInt(5)).append(r.nextInt(3) == 0 ? 4 : r.nextInt(5));
        }
        int spoilt = r.nextInt(3) == 0 ? 1 + r.nextInt(2) : 0;
        for (int i = 0; i < spoilt && s.length() > 0; i++) {
            int place = r.nextInt(s.length());
            switch (r.nextInt(4)) {
                case 0 -> s.deleteCharAt(place);
                case 1 -> s.insert(place, "pfcdrx=;,0123456789 ~".charAt(r.nextInt(21)));
                case 2 -> s.insert(place, ' ');
                default -> s.setLength(place);
            }
        }
        return s.toString();
    }

    private void town(String where) {
        String text = text();
        for (char letter : text.toCharArray()) {
            d.due(where + "type", x.type(letter), m.type(letter));
        }
        d.due(where + "town of " + text, x.town(), m.town());
        all(where + "behind town ");
    }

    private void all(String where) {
        for (int what = 0; what < 8; what++) {
            d.due(where + "count " + what, x.count(what), m.count(what));
        }
        for (int a = 0; a < 6; a++) {
            for (int what = 0; what < 7; what++) {
                d.due(where + "of " + a + ", " + what, x.of(a, what), m.of(a, what));
            }
        }
        for (int t = 0; t < 4; t++) {
            for (int what = 0; what < 3; what++) {
                d.due(where + "at " + t + ", " + what, x.at(t, what), m.at(t, what));
            }
            d.due(where + "robs " + t, x.robs(t), m.robs(t));
        }
    }

    private void one(String where) {
        switch (r.nextInt(8)) {
            case 0 -> {
                if (r.nextInt(3) == 0) {
                    town(where);
                } else {
                    told(where);
                }
            }
            case 1, 2 -> done(where);
            case 3 -> foretold(where);
            case 4 -> sought(where);
            case 5, 6 -> sheets(where);
            default -> all(where);
        }
    }

    private void told(String where) {
        int a = about(4), b = about(3), c = about(9);
        switch (r.nextInt(6)) {
            case 0 -> d.due(where + "apprentice", x.apprentice(a, b, c), m.apprentice(a, b, c));
            case 1 -> d.due(where + "thief", x.thief(c, a), m.thief(c, a));
            case 2 -> d.due(where + "image", x.image(), m.image());
            case 3 -> d.due(where + "restore", x.restore(), m.restore());
            case 4 -> d.due(where + "type", x.type(32 + 6 * c), m.type(32 + 6 * c));
            default -> {
                int v = about(r.nextBoolean() ? 15 : 99);
                d.due(where + "bar " + v, x.bar(v), m.bar(v));
            }
        }
    }

    private void done(String where) {
        int n = nightsOf(40), a = boy(), is = about(1), c = about(9);
        int v = r.nextInt(5) == 0 ? about(9) : r.nextInt();
        switch (r.nextInt(7)) {
            case 0 -> d.due(where + "nights " + n, x.nights(n), m.nights(n));
            case 1 -> d.due(where + "drift " + n, x.drift(n), m.drift(n));
            case 2, 3 -> d.due(where + "show " + a + ", " + is, x.show(a, is), m.show(a, is));
            case 4 -> d.due(where + "teach " + a + ", " + c, x.teach(a, c), m.teach(a, c));
            case 5 -> d.due(where + "seed " + v, x.seed(v), m.seed(v));
            default -> d.due(where + "undo", x.undo(), m.undo());
        }
    }

    private void foretold(String where) {
        int a = boy(), n = nightsOf(99), c = about(10), what = about(1);
        switch (r.nextInt(5)) {
            case 0 -> d.due(where + "ahead " + a + ", " + n, x.ahead(a, n), m.ahead(a, n));
            case 1 -> d.due(where + "then " + n, x.then(n), m.then(n));
            case 2 -> d.due(where + "sworn " + a, x.sworn(a), m.sworn(a));
            case 3 -> d.due(where + "match", x.match(), m.match());
            default -> d.due(where + "leave " + a + ", " + c + ", " + what, x.leave(a, c, what), m.leave(a, c, what));
        }
    }

    private void sought(String where) {
        int a = boy(), n = nightsOf(40), what = about(1);
        switch (r.nextInt(5)) {
            case 0 -> d.due(where + "hides " + a + ", " + what, x.hides(a, what), m.hides(a, what));
            case 1 -> d.due(where + "cover " + a + ", " + n + ", " + what, x.cover(a, n, what), m.cover(a, n, what));
            case 2 -> d.due(where + "low " + n, x.low(n), m.low(n));
            case 3 -> d.due(where + "spare " + n + ", " + what, x.spare(n, what), m.spare(n, what));
            default -> d.due(where + "care " + a + ", " + n, x.care(a, n), m.care(a, n));
        }
    }

    private void sheets(String where) {
        int a = boy(), s = about(3), to = about(3), lane = r.nextInt(2) + about(1), i = r.nextInt(3) == 0 ? about(24) : about(2);
        int j = about(2), n = r.nextInt(3) == 0 ? about(24) : about(5), what = about(2);
        long v = r.nextInt(4) == 0 ? r.nextLong() : about(99);
        switch (r.nextInt(8)) {
            case 0 -> {
                int size = r.nextInt(3) == 0 ? n : 24;
                d.due(where + "sheet " + s + ", " + lane + ", " + size, x.sheet(s, lane, size), m.sheet(s, lane, size));
            }
            case 1 -> {
                if (r.nextInt(4) == 0) {
                    d.due(where + "drop " + s, x.drop(s), m.drop(s));
                }
            }
            case 2 -> d.due(where + "item " + s + ", " + lane + ", " + i + ", " + v, x.item(s, lane, i, v), m.item(s, lane, i, v));
            case 3 -> d.due(where + "copy " + s + ", " + i + ", " + to + ", " + j + ", " + n, x.copy(s, i, to, j, n),
                m.copy(s, i, to, j, n));
            case 4, 5 -> {
                d.due(where + "film", x.film(a, n, s, lane, i), m.film(a, n, s, lane, i));
                for (int w = 0; w < 3; w++) {
                    d.due(where + "grown " + w, x.grown(a, s, lane, i, n, w), m.grown(a, s, lane, i, n, w));
                }
            }
            default -> d.due(where + "grown " + a + ", " + s + ", " + lane + ", " + i + ", " + n + ", " + what,
                x.grown(a, s, lane, i, n, what), m.grown(a, s, lane, i, n, what));
        }
    }
}
