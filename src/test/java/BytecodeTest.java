import java.io.PrintWriter;
import java.io.StringWriter;
import java.nio.file.Path;
import java.util.ArrayList;
import java.util.HashSet;
import java.util.LinkedHashMap;
import java.util.List;
import java.util.Map;
import java.util.Set;
import java.util.TreeSet;
import java.util.regex.Matcher;
import java.util.regex.Pattern;
import java.util.spi.ToolProvider;

/** Those rules of LANGUAGE.md that the compiled class shows; rule numbers stand at the checks. */
public final class BytecodeTest {
    /** What is in use of what rule 4 lists; whoever needs more of its list adds it here. */
    private static final Set<String> LIBRARY = Set.of(
        "java/lang/Object.<init>", "java/lang/Math.min", "java/lang/Math.max", "java/lang/Integer.bitCount",
        "java/lang/System.arraycopy", "java/util/Arrays.fill");
    /** Methods that divide by what is not a constant; each looks at it first. */
    private static final Set<String> DIVIDERS = Set.of("StonesAbove.fraction", "StonesAbove.greatestDivisor");
    private static final int DEEPEST = 8;
    private static final Pattern HEADER = Pattern.compile("  (?:[a-z]+ )*(?:[\\w$\\[\\].]+ )?([\\w$]+)\\(.*\\);");
    private static final Pattern STEP = Pattern.compile("\\s+\\d+: (\\w+)(?:\\s+(.*))?");
    private static final Pattern CALLED = Pattern.compile(".*// Method (?:([\\w/$]+)\\.)?\"?([\\w<>$]+)\"?:.*");

    /** By class and method: its steps, one a line. */
    private static final Map<String, List<String>> methods = new LinkedHashMap<>();
    private static final Map<String, Set<String>> calls = new LinkedHashMap<>();

    public static void main(String[] args) throws Exception {
        List<Class<?>> classes = new ArrayList<>(List.of(StonesAbove.class.getDeclaredClasses()));
        classes.add(StonesAbove.class);
        holds("11: twelve classes at most", classes.size() <= 12);
        for (Class<?> c : classes) {
            readSteps(c);
        }
        holds("the steps were read", methods.size() > 100);
        for (Map.Entry<String, List<String>> method : methods.entrySet()) {
            steps(method.getKey(), method.getValue());
        }
        library();
        depth();
        Check.end();
    }

    private static void holds(String told, boolean held) {
        Check.due("rule " + told, held ? 1 : 0, 1);
    }

    private static void readSteps(Class<?> c) throws Exception {
        Path folder = Path.of(StonesAbove.class.getProtectionDomain().getCodeSource().getLocation().toURI());
        StringWriter shown = new StringWriter();
        PrintWriter writer = new PrintWriter(shown);
        ToolProvider.findFirst("javap").orElseThrow().run(writer, writer, "-c", "-p", "-cp", folder.toString(), c.getName());
        String method = "";
        for (String line : shown.toString().split("\n")) {
            Matcher header = HEADER.matcher(line);
            if (header.matches()) {
                method = c.getName() + "." + (header.group(1).equals(c.getName()) ? "<init>" : header.group(1));
                methods.put(method, new ArrayList<>());
            } else if (line.equals("  static {};")) {
                method = c.getName() + ".<clinit>";
                methods.put(method, new ArrayList<>());
            } else if (!method.isEmpty()) {
                methods.get(method).add(line);
            }
        }
    }

    private static void steps(String method, List<String> lines) {
        boolean making = method.endsWith(".<init>") || method.endsWith(".<clinit>");
        String before = "";
        for (String line : lines) {
            holds("6: " + method + " catches nothing", !line.contains("Exception table"));
            Matcher m = STEP.matcher(line);
            if (m.matches()) {
                String step = m.group(1);
                String at = method + ": " + line.trim();
                holds("2, 6: " + at, !step.matches("athrow|monitor\\w+|invokedynamic|invokeinterface|checkcast|instanceof"));
                holds("3: no doubles or floats, " + at, !step.matches("[df](load|store|const|add|sub|mul|div|rem|neg|cmp|return|aload|astore)\\w*|[ilfd]2[fd]"));
                holds("5: " + at, !step.equals("putstatic") || method.endsWith(".<clinit>"));
                holds("12: made in constructors alone, " + at, making || !step.matches("new|\\w*newarray"));
                holds("7: divides by a constant, " + at, !step.matches("[il](div|rem)") || isConstant(before) || DIVIDERS.contains(method));
                before = line;
            }
            Matcher called = CALLED.matcher(line);
            if (called.matches()) {
                String owner = called.group(1) == null ? method.substring(0, method.indexOf('.')) : called.group(1);
                calls.computeIfAbsent(method, k -> new TreeSet<>()).add(owner + "." + called.group(2));
            }
        }
    }

    /** A step that pushes a number other than 0. */
    private static boolean isConstant(String line) {
        return line.matches("\\s+\\d+: (iconst_[1-5]|lconst_1|[bs]ipush\\s+[1-9]\\d*|ldc2?_?w?\\s.*)");
    }

    private static void library() {
        for (Map.Entry<String, Set<String>> method : calls.entrySet()) {
            for (String called : method.getValue()) {
                holds("4: " + method.getKey() + " calls " + called, methods.containsKey(called) || LIBRARY.contains(called));
            }
        }
    }

    /** From each public method; a method that is open already is a recursion and goes no deeper. */
    private static void depth() {
        Set<String> open = new HashSet<>();
        for (String method : methods.keySet()) {
            int deep = deepest(method, open);
            holds("11: " + method + " goes " + deep + " deep", deep <= DEEPEST);
        }
        Set<String> recursive = new TreeSet<>();
        for (String method : methods.keySet()) {
            if (reaches(method, method, new HashSet<>())) {
                recursive.add(method);
            }
        }
        holds("8: recursion in the search for ORDER alone: " + recursive,
            recursive.equals(Set.of("StonesAbove$Order.extend", "StonesAbove$Order.tryEach")));
    }

    private static int deepest(String method, Set<String> open) {
        if (!methods.containsKey(method) || !open.add(method)) {
            return 0;
        }
        int most = 0;
        for (String called : calls.getOrDefault(method, Set.of())) {
            most = Math.max(most, deepest(called, open));
        }
        open.remove(method);
        return most + 1;
    }

    private static boolean reaches(String from, String to, Set<String> seen) {
        for (String called : calls.getOrDefault(from, Set.of())) {
            if (called.equals(to) || (seen.add(called) && reaches(called, to, seen))) {
                return true;
            }
        }
        return false;
    }
}
