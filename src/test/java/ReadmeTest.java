import java.io.IOException;
import java.lang.reflect.Method;
import java.lang.reflect.Modifier;
import java.net.URL;
import java.net.URLClassLoader;
import java.nio.file.Files;
import java.nio.file.Path;
import java.util.ArrayList;
import java.util.Comparator;
import java.util.List;
import java.util.Set;
import java.util.TreeSet;
import java.util.regex.Matcher;
import java.util.regex.Pattern;
import java.util.stream.Stream;

/** What README.md says of calls and their answers, of the refusals, of the tests and of the commands is so. */
public final class ReadmeTest {
    private static final Path README = Path.of("README.md"), TESTS = Path.of("src/test/java");
    private static final Pattern CALL = Pattern.compile("(int \\w+ = )?(x\\.(\\w+)\\(.*\\)); *// (-?\\d+|[A-Z]+)(?=:|$).*");
    private static final Pattern REFUSAL = Pattern.compile("(?m)^\\| `([A-Z]+)` \\| (-\\d+) \\|");
    private static final String MADE = "RobbedOnce x = new RobbedOnce();";

    /** Public, since the class made of the page's calls comes by another loader. */
    public interface Answers {
        void due(String call, long got, long want);
    }

    private final Due d = new Due();
    private final String page;
    private final Path room;
    private final Set<String> shown = new TreeSet<>();

    private ReadmeTest(String page, Path room) {
        this.page = page;
        this.room = room;
    }

    public static void main(String[] args) throws Exception {
        Path room = Files.createTempDirectory("readme");
        ReadmeTest test = new ReadmeTest(Files.readString(README), room);
        try {
            test.calls();
            test.refusals();
            test.tests();
            test.commands();
        } finally {
            remove(room);
        }
        test.d.end();
    }

    private static void remove(Path room) throws IOException {
        try (Stream<Path> all = Files.walk(room)) {
            for (Path p : all.sorted(Comparator.reverseOrder()).toList()) {
                Files.delete(p);
            }
        }
    }

    private void is(String what, boolean so) {
        d.due(what, so ? 1 : 0, 1);
    }

    private List<String> blocks(String language) {
        List<String> found = new ArrayList<>();
        Matcher m = Pattern.compile("(?ms)^```" + language + "\\n(.*?)^```$").matcher(page);
        while (m.find()) {
            found.add(m.group(1));
        }
        return found;
    }

    /** The page's calls as a class that hands over each answer; lines that are no calls go in as they are. */
    private String program(List<String> blocks) {
        StringBuilder text = new StringBuilder("public final class Shown {\n  public static void run(ReadmeTest.Answers d) {\n");
        for (String block : blocks) {
            is("a block begins with a new object:\n" + block, block.startsWith(MADE + "\n"));
            text.append("    {\n");
            for (String line : block.lines().toList()) {
                text.append(statement(line)).append('\n');
            }
            text.append("    }\n");
        }
        return text.append("  }\n}\n").toString();
    }

    private String statement(String line) {
        Matcher call = CALL.matcher(line);
        if (!call.matches()) {
            is("no call without its answer: " + line, line.equals(MADE) || line.matches("for .*\\{|    x\\.type\\(letter\\);|\\}"));
            return line;
        }
        shown.add(call.group(3));
        String want = call.group(4).matches("[A-Z]+") ? "RobbedOnce." + call.group(4) : call.group(4);
        String words = call.group(2).replace("\"", "\\\"");
        if (call.group(1) == null) {
            return "d.due(\"" + words + "\", " + call.group(2) + ", " + want + ");";
        }
        String name = call.group(1).substring("int ".length(), call.group(1).indexOf(" ="));
        return call.group(1) + call.group(2) + "; d.due(\"" + words + "\", " + name + ", " + want + ");";
    }

    private void calls() throws Exception {
        List<String> blocks = blocks("java");
        is("there are calls", !blocks.isEmpty());
        Path source = room.resolve("Shown.java");
        Files.writeString(source, program(blocks));
        int exit = run(List.of("javac", "-cp", System.getProperty("java.class.path"), "-d", room.toString(), source.toString()));
        d.due("the page's calls compile", exit, 0);
        if (exit == 0) {
            try (URLClassLoader loader = new URLClassLoader(new URL[] {room.toUri().toURL()}, getClass().getClassLoader())) {
                Answers answers = d::due;
                loader.loadClass("Shown").getMethod("run", Answers.class).invoke(null, answers);
            }
        }
        for (Method m : RobbedOnce.class.getDeclaredMethods()) {
            is("the page shows " + m.getName(), !Modifier.isPublic(m.getModifiers()) || shown.contains(m.getName()));
        }
    }

    private void refusals() throws ReflectiveOperationException {
        Set<String> told = new TreeSet<>();
        Matcher row = REFUSAL.matcher(page);
        while (row.find()) {
            told.add(row.group(1));
            d.due(row.group(1), RobbedOnce.class.getField(row.group(1)).getInt(null), Integer.parseInt(row.group(2)));
        }
        d.due("refusals", told.size(), RobbedOnce.class.getFields().length);
        is("every refusal is told", told.equals(Set.of("BAD", "NOT", "FULL", "NONE", "NULL", "CAST", "INDEX", "SIZE")));
    }

    private void tests() throws IOException {
        Set<String> told = new TreeSet<>();
        Matcher name = Pattern.compile("`(\\w+Test)`").matcher(page.substring(page.indexOf("| test |")));
        while (name.find()) {
            told.add(name.group(1));
        }
        try (Stream<Path> files = Files.list(TESTS)) {
            for (Path file : files.toList()) {
                String test = file.getFileName().toString().replace(".java", "");
                is("the page tells of " + test, !test.endsWith("Test") || told.remove(test));
            }
        }
        d.due("told, but not there: " + told, told.size(), 0);
    }

    private void commands() throws Exception {
        List<String> blocks = blocks("sh");
        d.due("commands", blocks.size(), 2);
        if (blocks.size() == 2) {
            // The first runs this very test, too: here it is only looked at.
            Path all = Path.of(blocks.get(0).trim());
            is(all + " can be run", Files.isExecutable(all));
            d.due("one test alone", run(List.of("sh", "-e", "-c", blocks.get(1))), 0);
        }
    }

    private int run(List<String> command) throws IOException, InterruptedException {
        ProcessBuilder builder = new ProcessBuilder(command).redirectErrorStream(true);
        builder.environment().put("TMPDIR", room.toString());
        Process process = builder.start();
        String said = new String(process.getInputStream().readAllBytes());
        int exit = process.waitFor();
        if (exit != 0) {
            System.out.println(said);
        }
        return exit;
    }
}
