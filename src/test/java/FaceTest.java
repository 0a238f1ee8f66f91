import java.lang.reflect.Constructor;
import java.lang.reflect.Field;
import java.lang.reflect.Method;
import java.lang.reflect.Modifier;
import java.util.Set;
import java.util.TreeSet;

/** The public face is the document's, and nothing else of the class can be seen. */
public final class FaceTest {
    private static final String[] METHODS = {
        "int apprentice(int,int,int)", "int thief(int,int)", "int bar(int)", "int of(int,int)", "int at(int,int)",
        "int type(int)", "int town()", "int count(int)", "int nights(int)", "int show(int,int)", "int teach(int,int)",
        "int drift(int)", "int undo()", "int seed(int)", "int ahead(int,int)", "int then(int)", "int sworn(int)",
        "int robs(int)", "int hides(int,int)", "int cover(int,int,int)", "int low(int)", "int spare(int,int)",
        "int match()", "int care(int,int)", "int leave(int,int,int)", "int image()", "int restore()",
        "int grown(int,int,int,int,int,int)", "int film(int,int,int,int,int)", "int sheet(int,int,int)", "int drop(int)",
        "int item(int,int,int,long)", "int copy(int,int,int,int,int)"};
    private static final String[] CONSTANTS = {"BAD", "NOT", "FULL", "NONE", "NULL", "CAST", "INDEX", "SIZE"};
    private static final int[] VALUES = {-1, -2, -3, -4, -11, -12, -13, -14};

    public static void main(String[] args) throws IllegalAccessException {
        Due d = new Due();
        Class<?> c = RobbedOnce.class;
        int open = Modifier.PUBLIC | Modifier.FINAL;
        d.due("public and final", c.getModifiers() & open, open);
        Set<String> wanted = new TreeSet<>(Set.of(METHODS));
        Set<String> names = new TreeSet<>();
        for (String m : METHODS) {
            names.add(m.substring(4, m.indexOf('(')));
        }
        for (Method m : c.getDeclaredMethods()) {
            if (Modifier.isPublic(m.getModifiers())) {
                StringBuilder told = new StringBuilder(m.getReturnType() + " " + m.getName() + "(");
                for (int i = 0; i < m.getParameterCount(); i++) {
                    told.append(i == 0 ? "" : ",").append(m.getParameterTypes()[i]);
                }
                d.due("a method of the face: " + told, wanted.remove(told + ")") ? 1 : 0, 1);
                d.due("not static: " + m, Modifier.isStatic(m.getModifiers()) ? 1 : 0, 0);
            } else {
                d.due("private: " + m, Modifier.isPrivate(m.getModifiers()) ? 1 : 0, 1);
                d.due("another name: " + m, names.contains(m.getName()) ? 1 : 0, 0);
            }
        }
        d.due("missing: " + wanted, wanted.size(), 0);
        Set<String> constants = new TreeSet<>(Set.of(CONSTANTS));
        for (Field f : c.getDeclaredFields()) {
            if (Modifier.isPrivate(f.getModifiers())) {
                continue;
            }
            int constant = Modifier.PUBLIC | Modifier.STATIC | Modifier.FINAL;
            d.due("a constant: " + f, f.getModifiers() == constant && constants.remove(f.getName()) ? 1 : 0, 1);
        }
        d.due("missing: " + constants, constants.size(), 0);
        for (int i = 0; i < CONSTANTS.length; i++) {
            try {
                d.due(CONSTANTS[i], c.getField(CONSTANTS[i]).getInt(null), VALUES[i]);
            } catch (NoSuchFieldException e) {
                d.due("missing: " + CONSTANTS[i], 0, 1);
            }
        }
        Constructor<?>[] made = c.getDeclaredConstructors();
        d.due("one constructor", made.length, 1);
        d.due("public", made[0].getModifiers() & Modifier.PUBLIC, Modifier.PUBLIC);
        d.due("of nothing", made[0].getParameterCount(), 0);
        for (Class<?> inside : c.getDeclaredClasses()) {
            d.due("static: " + inside, Modifier.isStatic(inside.getModifiers()) ? 1 : 0, 1);
            for (Method m : inside.getDeclaredMethods()) {
                d.due("another name: " + m, names.contains(m.getName()) ? 1 : 0, 0);
            }
        }
        d.end();
    }
}
