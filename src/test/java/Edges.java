import java.io.IOException;
import java.io.UncheckedIOException;
import java.nio.file.Files;
import java.nio.file.Path;

/**
 * The document's sentences that name a boundary, one after another. Each has to stand in the document word by word, and
 * has to be asked at its boundary, just inside it and just outside it.
 */
final class Edges {
    private static final Path DOCUMENT = Path.of("../shared/DOC.md");
    private static final String[] SIDES = {"at", "inside", "outside"};

    private final Due d = new Due();
    private final String document;
    private final int[] asked = new int[SIDES.length];
    private String words;

    Edges() {
        try {
            document = Files.readString(DOCUMENT);
        } catch (IOException e) {
            throw new UncheckedIOException(e);
        }
    }

    void sentence(String next) {
        endSentence();
        words = next;
        d.due("the document says '" + next + "'", document.contains(next) ? 1 : 0, 1);
    }

    void at(String call, long got, long want) {
        side(0, call, got, want);
    }

    void inside(String call, long got, long want) {
        side(1, call, got, want);
    }

    void outside(String call, long got, long want) {
        side(2, call, got, want);
    }

    private void side(int side, String call, long got, long want) {
        asked[side]++;
        d.due("'" + words + "', " + SIDES[side] + ": " + call, got, want);
    }

    private void endSentence() {
        for (int side = 0; words != null && side < SIDES.length; side++) {
            d.due("'" + words + "' is asked " + SIDES[side], asked[side] > 0 ? 1 : 0, 1);
            asked[side] = 0;
        }
    }

    void end() {
        endSentence();
        d.end();
    }
}
