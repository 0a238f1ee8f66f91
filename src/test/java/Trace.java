/**
 * All that can be seen of an object, as one number: two objects that went the same way have the same. The object is used up
 * by it, in some 380 calls at most, so that no more than 512 are made.
 */
final class Trace {
    private final RobbedOnce x;
    private long sum = 1;

    private Trace(RobbedOnce x) {
        this.x = x;
    }

    static long of(RobbedOnce x) {
        Trace t = new Trace(x);
        t.town();
        t.sheets();
        for (int left = x.undo(); left >= 0; left = x.undo()) {
            t.moment();
        }
        t.add(x.restore());
        t.moment();
        t.tape();
        return t.sum;
    }

    private void add(long answer) {
        sum = sum * 1000003 + answer;
    }

    private void moment() {
        int draw = x.seed(0);
        x.seed(draw);
        add(draw);
        for (int what = 0; what < 8; what++) {
            add(x.count(what));
        }
        int apprentices = x.count(0);
        for (int a = 0; a < apprentices; a++) {
            add(x.of(a, 1));
            add(x.of(a, 2));
            add(x.of(a, 3));
        }
    }

    private void town() {
        moment();
        for (int a = 0; a < 6; a++) {
            add(x.of(a, 0));
        }
        for (int t = 0; t < 4; t++) {
            add(x.at(t, 0));
            add(x.at(t, 1));
        }
    }

    /** An item tells of itself by how grown the first apprentice would be by it. */
    private void sheets() {
        for (int s = 0; s < 4; s++) {
            for (int lane = 0; lane < 4; lane++) {
                add(x.grown(0, s, lane, -1, 1, 0));
                for (int i = 0; i < 3; i++) {
                    add(x.grown(0, s, lane, i, 1, 2));
                }
            }
            add(x.drop(s));
        }
    }

    private void tape() {
        add(x.type('~'));
        add(x.town());
    }
}
