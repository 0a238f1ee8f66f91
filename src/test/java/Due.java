/** Counts the answers that are not as due, and makes towns from texts. */
final class Due {
    private int wrong;
    private int asked;

    void due(String call, long got, long want) {
        asked++;
        if (got != want) {
            wrong++;
            System.out.println(call + " answered " + got + ", due is " + want);
        }
    }

    void end() {
        System.out.println(asked + " answers, " + wrong + " not as due");
        if (wrong != 0 || asked == 0) {
            System.exit(1);
        }
    }

    static int readInto(RobbedOnce x, String text) {
        for (int i = 0; i < text.length(); i++) {
            x.type(text.charAt(i));
        }
        return x.town();
    }

    static RobbedOnce townOf(String text) {
        RobbedOnce x = new RobbedOnce();
        int answer = readInto(x, text);
        if (answer < 0) {
            throw new IllegalArgumentException(text + " answered " + answer);
        }
        return x;
    }
}
