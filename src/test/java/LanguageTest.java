import java.io.IOException;
import java.nio.file.Files;
import java.nio.file.Path;
import java.util.regex.Matcher;
import java.util.regex.Pattern;

/** Signs of code outside ../shared/LANGUAGE.md, so far as they can be seen in the text. */
public final class LanguageTest {
    private static final String[] RULED_OUT = {
        "\\bimport\\b", "\\bpackage\\b", "->", "::", "\\bfinally\\b", "\\bsynchronized\\b", "\\bassert\\b", "\\bcatch\\b",
        "\\bSystem\\.(?!arraycopy)", "\\bMath\\.(?!min|max|abs)", "Exact\\(", "\\bInteger\\.(?!bitCount)", "\\bprotected\\b",
        "static \\{", "\\bwhile \\(true\\)", "\\bfor \\(;;", "[^\\x00-\\x7f]", "hashCode|toString|equals"};
    private static final int MOST_LINES = 60, MOST_PARAMETERS = 7, MOST_CLASSES = 12;

    public static void main(String[] args) throws IOException {
        Due d = new Due();
        String text = Files.readString(Path.of("src/main/java/RobbedOnce.java"));
        String code = text.replaceAll("(?s)/\\*.*?\\*/|//[^\\n]*", "");
        for (String sign : RULED_OUT) {
            Matcher m = Pattern.compile(sign).matcher(code);
            d.due("ruled out: " + sign + (m.find() ? " at " + m.start() : ""), m.reset().results().count(), 0);
        }
        Matcher statics = Pattern.compile("\\bstatic (?!final|int |boolean )[^\\n]*").matcher(code);
        while (statics.find()) {
            d.due("a static that may change: " + statics.group(), 0, 1);
        }
        d.due("classes", Pattern.compile("\\bclass \\w+").matcher(code).results().count() <= MOST_CLASSES ? 1 : 0, 1);
        Matcher heads = Pattern.compile("\\n( +)(?:public|private)[^;=(]*\\(([^)]*)\\) \\{\\n").matcher(code);
        while (heads.find()) {
            int parameters = heads.group(2).isEmpty() ? 0 : heads.group(2).split(",").length;
            d.due("parameters of" + heads.group(), parameters <= MOST_PARAMETERS ? 1 : 0, 1);
            int end = code.indexOf("\n" + heads.group(1) + "}\n", heads.end() - 1);
            long lines = code.substring(heads.end(), end + 1).lines().count();
            d.due("lines of" + heads.group(), lines <= MOST_LINES ? 1 : 0, 1);
        }
        d.end();
    }
}
