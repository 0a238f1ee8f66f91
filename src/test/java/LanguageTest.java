import java.io.IOException;
import java.nio.file.Files;
import java.nio.file.Path;
import java.util.LinkedHashMap;
import java.util.Map;
import java.util.regex.Matcher;
import java.util.regex.Pattern;

/** Signs of code outside ../shared/LANGUAGE.md, so far as they can be seen in the text. */
public final class LanguageTest {
    private static final String[] RULED_OUT = {
        "\\bimport\\b", "\\bpackage\\b", "->", "::", "\\bfinally\\b", "\\bsynchronized\\b", "\\bassert\\b", "\\bcatch\\b",
        "\\bSystem\\.(?!arraycopy)", "\\bMath\\.(?!min|max|abs)", "Exact\\(", "\\bInteger\\.(?!bitCount)", "\\bprotected\\b",
        "static \\{", "\\bwhile \\(true\\)", "\\bfor \\(;;", "[^\\x00-\\x7f]", "hashCode|toString|equals"};
    private static final int MOST_LINES = 60, MOST_PARAMETERS = 7, MOST_CLASSES = 12, MOST_DEEP = 8;

    public static void main(String[] args) throws IOException {
        Due d = new Due();
        String text = Files.readString(Path.of("src/main/java/RobbedOnce.java"));
        String code = text.replaceAll("(?s)/\\*.*?\\*/|//[^\\n]*", "");
        for (String sign : RULED_OUT) {
            Matcher m = Pattern.compile(sign).matcher(code);
            d.due("ruled out: " + sign + (m.find() ? " at " + m.start() : ""), m.reset().results().count(), 0);
        }
        Matcher statics = Pattern.compile("\\bstatic (?!final|int |boolean )[^\\n]*").matcher(code);
        while (statics.find()) {
            d.due("a static that may change: " + statics.group(), 0, 1);
        }
        d.due("classes", Pattern.compile("\\bclass \\w+").matcher(code).results().count() <= MOST_CLASSES ? 1 : 0, 1);
        Map<String, String> bodies = new LinkedHashMap<>();
        Matcher heads = Pattern.compile("\\n( +)(?:public|private)[^;=(]*\\(([^)]*)\\) \\{\\n").matcher(code);
        while (heads.find()) {
            int parameters = heads.group(2).isEmpty() ? 0 : heads.group(2).split(",").length;
            d.due("parameters of" + heads.group(), parameters <= MOST_PARAMETERS ? 1 : 0, 1);
            int end = code.indexOf("\n" + heads.group(1) + "}\n", heads.end() - 1);
            long lines = code.substring(heads.end(), end + 1).lines().count();
            d.due("lines of" + heads.group(), lines <= MOST_LINES ? 1 : 0, 1);
            String name = heads.group().replaceAll("(?s)\\(.*", "").replaceAll("(?s).*\\s", "");
            bodies.put(classAround(code, heads.start()) + "." + name, code.substring(heads.end(), end + 1));
        }
        for (String method : bodies.keySet()) {
            d.due("calls open at once from " + method, deep(bodies, method, 0) <= MOST_DEEP ? 1 : 0, 1);
        }
        d.end();
    }

    private static String classAround(String code, int place) {
        Matcher m = Pattern.compile("\\bclass (\\w+)").matcher(code.substring(0, place));
        String name = "";
        while (m.find()) {
            // Methods of the outer class all stand ahead of the classes inside it.
            name = m.group(1);
        }
        return name;
    }

    /** How many calls stand open at once, this one too; a call by a name may go to any other method of that name. */
    private static int deep(Map<String, String> bodies, String method, int open) {
        if (open > MOST_DEEP) {
            return 1;
        }
        int most = 0;
        for (String other : bodies.keySet()) {
            String name = other.substring(other.indexOf('.') + 1);
            if (!other.equals(method) && Pattern.compile("\\b" + name + "\\(").matcher(bodies.get(method)).find()) {
                most = Math.max(most, deep(bodies, other, open + 1));
            }
        }
        return most + 1;
    }
}
