import java.io.File;
import java.io.IOException;
import java.lang.reflect.Method;
import java.lang.reflect.Modifier;
import java.net.URL;
import java.net.URLClassLoader;
import java.nio.file.Files;
import java.nio.file.Path;
import java.util.ArrayList;
import java.util.Arrays;
import java.util.Comparator;
import java.util.List;
import java.util.Set;
import java.util.TreeSet;
import java.util.regex.Matcher;
import java.util.regex.Pattern;
import java.util.stream.Collectors;
import java.util.stream.Stream;
import javax.tools.ToolProvider;

/**
 * README.md must be so: its example compiles and answers as it says, its tables hold, its commands
 * run, and each test that it names is there and is run. Arguments: the tests that .ci/run has run.
 */
public final class ReadmeTest {
    private static final Path TESTS = Path.of("src/test/java");
    private static final Pattern TOLD = Pattern.compile("\\s*((?:int|long) \\w+ = )?(x\\.\\w+\\(.*?\\));\\s*// (-?\\d+): .*");
    private static String readme;

    public static void main(String[] args) throws Exception {
        readme = Files.readString(Path.of("README.md"));
        Path room = Files.createTempDirectory("readme");
        try {
            example(room);
            commands(room);
        } finally {
            remove(room);
        }
        settings();
        calls();
        refusals();
        longRefusals();
        tests(args);
        Check.end();
    }

    private static void holds(String told, boolean held) {
        Check.due(told, held ? 1 : 0, 1);
    }

    private static void remove(Path room) throws IOException {
        try (Stream<Path> all = Files.walk(room)) {
            all.sorted(Comparator.reverseOrder()).map(Path::toFile).forEach(File::delete);
        }
    }

    /** The lines of the first block of a kind; there must be one alone, so that none goes unread. */
    private static List<String> block(String kind) {
        String[] around = readme.split("(?m)^```" + kind + "\n");
        holds("one block of " + kind, around.length == 2);
        return Arrays.asList(around[1].substring(0, around[1].indexOf("\n```")).split("\n"));
    }

    private static void example(Path room) throws Exception {
        List<String> code = new ArrayList<>();
        List<String> asked = new ArrayList<>();
        List<Long> told = new ArrayList<>();
        for (String line : block("java")) {
            Matcher m = TOLD.matcher(line);
            boolean isTold = m.matches();
            if (isTold) {
                code.add((m.group(1) == null ? "" : m.group(1)) + "answers[" + told.size() + "] = " + m.group(2) + ";");
                asked.add(m.group(2));
                told.add(Long.parseLong(m.group(3)));
            } else {
                code.add(line);
            }
            holds("a call tells its answer: " + line, isTold || !line.startsWith("x."));
        }
        holds("the example tells answers", told.size() >= 20);
        compiles(room, "AsWritten", block("java"), 0);
        long[] answers = (long[]) compiles(room, "AsTold", code, told.size());
        for (int i = 0; i < told.size(); i++) {
            Check.due("README: " + asked.get(i), answers[i], told.get(i));
        }
    }

    /** Compiles lines as the body of a method, and runs it. */
    private static Object compiles(Path room, String name, List<String> lines, int answers) throws Exception {
        Path file = room.resolve(name + ".java");
        Files.writeString(file, "public class " + name + " { public static long[] run() { long[] answers = new long[" + answers + "];\n"
            + String.join("\n", lines) + "\nreturn answers; } }\n");
        String[] options = {"-cp", System.getProperty("java.class.path"), "-d", room.toString(), file.toString()};
        int code = ToolProvider.getSystemJavaCompiler().run(null, null, null, options);
        Check.due("README: javac of the example, " + name, code, 0);
        if (code != 0) {
            return new long[answers];
        }
        try (URLClassLoader loader = new URLClassLoader(new URL[] {room.toUri().toURL()})) {
            return loader.loadClass(name).getMethod("run").invoke(null);
        }
    }

    private static void commands(Path room) throws Exception {
        ProcessBuilder shell = new ProcessBuilder("sh", "-e", "-c", String.join("\n", block("sh")));
        shell.environment().put("TMPDIR", room.toString());
        Check.due("README: the commands to run one test", shell.inheritIO().start().waitFor(), 0);
        holds(".ci/run is there and may be run", Files.isExecutable(Path.of(".ci/run")) && readme.contains("`.ci/run`"));
    }

    /** The rows of a table under a heading that begins so; cells without signs around them. */
    private static List<String[]> table(String heading) {
        List<String[]> rows = new ArrayList<>();
        boolean inside = false;
        for (String line : readme.split("\n")) {
            if (line.startsWith(heading)) {
                inside = true;
            } else if (inside && !line.startsWith("|")) {
                break;
            } else if (inside && !line.startsWith("|--")) {
                rows.add(Stream.of(line.substring(1).split("\\|")).map(c -> c.replace("`", "").trim()).toArray(String[]::new));
            }
        }
        holds("a table " + heading, rows.size() > 0);
        return rows;
    }

    private static void settings() {
        String[] names = {"GAP", "ZIGZAG", "LAG", "BEGIN", "SUN", "SUNNED"};
        List<String[]> rows = table("| set() ");
        Check.due("README: settings", rows.size(), names.length);
        for (int i = 0; i < rows.size(); i++) {
            String[] row = rows.get(i);
            int what = Integer.parseInt(row[0]);
            String[] bounds = row[2].split(" to ");
            int least = Integer.parseInt(bounds[0]);
            int most = Integer.parseInt(bounds[1]);
            holds("README: setting " + what, what == i && row[1].equals(names[i]));
            StonesAbove x = new StonesAbove();
            Check.due("README: " + row[1] + " below its least", x.set(what, least - 1), StonesAbove.BAD);
            Check.due("README: " + row[1] + " above its most", x.set(what, most + 1), StonesAbove.BAD);
            Check.due("README: " + row[1] + " at first", x.set(what, least), Integer.parseInt(row[3]));
            Check.due("README: " + row[1] + " at its least", x.set(what, most), least);
            Check.due("README: " + row[1] + " at its most", x.set(what, most), most);
        }
    }

    private static void calls() {
        List<String> named = new ArrayList<>();
        for (String[] row : table("| call ")) {
            String inside = row[0].substring(row[0].indexOf('(') + 1, row[0].indexOf(')'));
            named.add(row[0].substring(0, row[0].indexOf('(')) + ":" + (inside.isEmpty() ? 0 : inside.split(", ").length));
        }
        List<String> face = Stream.of(StonesAbove.class.getDeclaredMethods())
            .filter(m -> Modifier.isPublic(m.getModifiers())).map(m -> m.getName() + ":" + m.getParameterCount()).sorted().collect(Collectors.toList());
        holds("README names each call once: " + named, named.stream().sorted().collect(Collectors.toList()).equals(face));
    }

    /** The object that the refusals' examples speak of. */
    private static StonesAbove refusing() {
        StonesAbove x = new StonesAbove();
        for (int i = 0; i < 8; i++) {
            x.fell(0, 0, 0);
        }
        x.sheet(0, 2, 5);
        x.sheet(1, 0, 5);
        return x;
    }

    private static void refusals() throws Exception {
        String[] names = {"BAD", "NOT", "FULL", "NULL", "INDEX", "CAST", "STORE", "SIZE"};
        List<String[]> rows = table("| answer ");
        Check.due("README: refusals", rows.size(), names.length);
        for (int i = 0; i < rows.size(); i++) {
            String[] row = rows.get(i);
            int due = Integer.parseInt(row[0]);
            holds("README: refusal " + row[1], row[1].equals(names[i]));
            StonesAbove x = refusing();
            long before = x.digest();
            Check.due("README: " + row[2], call(x, row[2]), due);
            Check.due("README: count(8) behind " + row[2], x.count(8), due <= -11 ? -10 - due : 0);
            Check.due("README: digest() behind " + row[2], x.digest(), before);
        }
    }

    private static long call(StonesAbove x, String told) throws Exception {
        String name = told.substring(0, told.indexOf('('));
        String[] numbers = told.substring(told.indexOf('(') + 1, told.indexOf(')')).split(", ");
        Object[] arguments = Stream.of(numbers).map(Integer::valueOf).toArray();
        Class<?>[] kinds = new Class<?>[arguments.length];
        Arrays.fill(kinds, int.class);
        Method m = StonesAbove.class.getMethod(name, kinds);
        return ((Number) m.invoke(x, arguments)).longValue();
    }

    private static void longRefusals() {
        StonesAbove x = Check.with(".", "11.");
        Check.due("README: a long BAD", x.curve(100, 0), Long.MIN_VALUE + 2);
        Check.due("README: a long NOT", x.foot(0, 0, 0), Long.MIN_VALUE + 3);
        Check.due("README: get() of a LOST one", x.get(0, 0, 0), Integer.MIN_VALUE);
        Check.due("README: get() of no SHEET", x.get(4, 0, 0), Integer.MIN_VALUE);
        Check.due("README: helmets() above is 1", x.helmets(1, 1), 0);
        Check.due("README: helmets() below is 2", x.helmets(1, 2), 1);
        Check.due("README: waits() above is 1", x.waits(1, 0, 9, 1), 0);
        Check.due("README: waits() below is 2", x.waits(1, 0, 9, 2), 1);
    }

    private static void tests(String[] ran) throws IOException {
        Set<String> named = table("| test ").stream().map(row -> row[0]).collect(Collectors.toCollection(TreeSet::new));
        Set<String> there = new TreeSet<>();
        for (File file : TESTS.toFile().listFiles((folder, name) -> name.endsWith("Test.java"))) {
            there.add(file.getName().replace(".java", ""));
            holds(file + " has a main method", Files.readString(file.toPath()).contains("public static void main(String[] args)"));
        }
        holds("README names the tests that are there: " + named + ", there are " + there, named.equals(there));
        for (String helper : new String[] {"Check", "Edges", "Plain"}) {
            holds("README names " + helper, readme.contains("`" + helper + "`") && Files.exists(TESTS.resolve(helper + ".java")));
        }
        Set<String> due = new TreeSet<>(there);
        due.remove("ReadmeTest");
        for (File file : new File("../shared/tests").listFiles((folder, name) -> name.endsWith(".java"))) {
            due.add(file.getName().replace(".java", ""));
        }
        if (ran.length > 0) {
            holds(".ci/run ran " + due, new TreeSet<>(Arrays.asList(ran)).equals(due));
        }
    }
}
