import java.io.IOException;
import java.lang.reflect.Constructor;
import java.lang.reflect.Field;
import java.lang.reflect.Method;
import java.lang.reflect.Modifier;
import java.nio.file.Files;
import java.nio.file.Path;
import java.util.Set;
import java.util.TreeSet;
import java.util.regex.Matcher;
import java.util.regex.Pattern;

/** The public face is the document's, and nothing else of the class can be seen. */
public final class FaceTest {
    private static final String[] METHODS = {
        "int apprentice(int,int,int)", "int thief(int,int)", "int bar(int)", "int of(int,int)", "int at(int,int)",
        "int type(int)", "int town()", "int count(int)", "int nights(int)", "int show(int,int)", "int teach(int,int)",
        "int drift(int)", "int undo()", "int seed(int)", "int ahead(int,int)", "int then(int)", "int sworn(int)",
        "int robs(int)", "int hides(int,int)", "int cover(int,int,int)", "int low(int)", "int spare(int,int)",
        "int match()", "int care(int,int)", "int leave(int,int,int)", "int image()", "int restore()",
        "int grown(int,int,int,int,int,int)", "int film(int,int,int,int,int)", "int sheet(int,int,int)", "int drop(int)",
        "int item(int,int,int,long)", "int copy(int,int,int,int,int)"};
    private static final String[] CONSTANTS = {"BAD", "NOT", "FULL", "NONE", "NULL", "CAST", "INDEX", "SIZE"};
    private static final int[] VALUES = {-1, -2, -3, -4, -11, -12, -13, -14};

    public static void main(String[] args) throws IllegalAccessException, IOException {
        Due d = new Due();
        asWritten(d);
        Class<?> c = RobbedOnce.class;
        int open = Modifier.PUBLIC | Modifier.FINAL;
        d.due("public and final", c.getModifiers() & open, open);
        Set<String> wanted = new TreeSet<>(Set.of(METHODS));
        Set<String> names = new TreeSet<>();
        for (String m : METHODS) {
            names.add(m.substring(4, m.indexOf('(')));
        }
        for (Method m : c.getDeclaredMethods()) {
            if (Modifier.isPublic(m.getModifiers())) {
                StringBuilder told = new StringBuilder(m.getReturnType() + " " + m.getName() + "(");
                for (int i = 0; i < m.getParameterCount(); i++) {
                    told.append(i == 0 ? "" : ",").append(m.getParameterTypes()[i]);
                }
                d.due("a method of the face: " + told, wanted.remove(told + ")") ? 1 : 0, 1);
                d.due("not static: " + m, Modifier.isStatic(m.getModifiers()) ? 1 : 0, 0);
            } else {
                d.due("private: " + m, Modifier.isPrivate(m.getModifiers()) ? 1 : 0, 1);
                d.due("another name: " + m, names.contains(m.getName()) ? 1 : 0, 0);
            }
        }
        d.due("missing: " + wanted, wanted.size(), 0);
        Set<String> constants = new TreeSet<>(Set.of(CONSTANTS));
        for (Field f : c.getDeclaredFields()) {
            if (Modifier.isPrivate(f.getModifiers())) {
                continue;
            }
            int constant = Modifier.PUBLIC | Modifier.STATIC | Modifier.FINAL;
            d.due("a constant: " + f, f.getModifiers() == constant && constants.remove(f.getName()) ? 1 : 0, 1);
        }
        d.due("missing: " + constants, constants.size(), 0);
        for (int i = 0; i < CONSTANTS.length; i++) {
            try {
                d.due(CONSTANTS[i], c.getField(CONSTANTS[i]).getInt(null), VALUES[i]);
            } catch (NoSuchFieldException e) {
                d.due("missing: " + CONSTANTS[i], 0, 1);
            }
        }
        Constructor<?>[] made = c.getDeclaredConstructors();
        d.due("one constructor", made.length, 1);
        d.due("public", made[0].getModifiers() & Modifier.PUBLIC, Modifier.PUBLIC);
        d.due("of nothing", made[0].getParameterCount(), 0);
        for (Class<?> inside : c.getDeclaredClasses()) {
            d.due("static: " + inside, Modifier.isStatic(inside.getModifiers()) ? 1 : 0, 1);
            for (Method m : inside.getDeclaredMethods()) {
                d.due("another name: " + m, names.contains(m.getName()) ? 1 : 0, 0);
            }
        }
        d.end();
    }

    /** The document's face stands in the text word by word and in its order, and so do the words ahead of its parts. */
    private static void asWritten(Due d) throws IOException {
        String document = Files.readString(Path.of("../shared/DOC.md"));
        String text = Files.readString(Path.of("src/main/java/RobbedOnce.java"));
        Matcher block = Pattern.compile("(?s)```java\\n(.*?)```").matcher(document);
        d.due("the document has a face", block.find() ? 1 : 0, 1);
        int place = 0;
        for (String line : block.group(1).lines().toList()) {
            String wanted = line.endsWith(");") ? line.substring(0, line.length() - 1) + " {" : line;
            int found = text.indexOf("\n" + wanted + "\n", place);
            d.due("as the document has it: " + line, found >= 0 ? 1 : 0, 1);
            place = Math.max(place, found);
        }
        Matcher part = Pattern.compile("Ahead of the calls `(\\w+)`.* the interface says: (.*)\\.").matcher(document);
        int parts = 0;
        while (part.find()) {
            parts++;
            String wanted = "    // " + part.group(2) + "\n\n    public int " + part.group(1) + "(";
            d.due("ahead of " + part.group(1) + ": " + part.group(2), text.contains(wanted) ? 1 : 0, 1);
        }
        d.due("parts", parts, 4);
    }
}
