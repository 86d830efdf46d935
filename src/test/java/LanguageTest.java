import java.lang.reflect.Constructor;
import java.lang.reflect.Field;
import java.lang.reflect.Method;
import java.lang.reflect.Modifier;
import java.nio.file.Files;
import java.nio.file.Path;
import java.util.Set;
import java.util.TreeSet;
import java.util.regex.Matcher;
import java.util.regex.Pattern;

/** The public face, and those rules of LANGUAGE.md that can be seen by reflection or in the source's words. */
public final class LanguageTest {
    private static final String FACE = "type:2 wipe:1 undo:1 fault:1 part:2 walker:2 set:2 place:2 treads:2 hits:3 harm:3 all:2 ends:0 latest:0 "
        + "curve:2 gap:1 order:1 ordered:1 helmets:2 waits:4 foot:3 fell:3 forget:0 loose:1 read:1 morning:1 sheet:3 lose:1 lay:4 get:3 "
        + "copy:5 write:2 count:1 digest:0";
    private static final Set<String> LONGS = Set.of("harm", "all", "curve", "ordered", "helmets", "waits", "foot", "digest");

    public static void main(String[] args) throws Exception {
        face();
        members(StonesAbove.class);
        words();
        methodsAreShort();
        Check.end();
    }

    private static void face() {
        Set<String> found = new TreeSet<>();
        for (Method m : StonesAbove.class.getDeclaredMethods()) {
            if (!Modifier.isPrivate(m.getModifiers())) {
                found.add(m.getName() + ":" + m.getParameterCount());
                holds(m + " is public", Modifier.isPublic(m.getModifiers()));
                holds(m + " answers as told", m.getReturnType() == (LONGS.contains(m.getName()) ? long.class : int.class));
            }
        }
        holds("the face is the document's: " + found, found.equals(new TreeSet<>(Set.of(FACE.split(" ")))));
        Constructor<?>[] constructors = StonesAbove.class.getDeclaredConstructors();
        holds("one constructor", constructors.length == 1 && Modifier.isPublic(constructors[0].getModifiers()));
        Check.due("NONE", StonesAbove.NONE, -1);
        Check.due("BAD", StonesAbove.BAD, -2);
        Check.due("NOT", StonesAbove.NOT, -3);
        Check.due("FULL", StonesAbove.FULL, -4);
        for (Field f : StonesAbove.class.getDeclaredFields()) {
            boolean told = Set.of("NONE", "BAD", "NOT", "FULL").contains(f.getName());
            holds(f + " is private or told", told ? Modifier.isPublic(f.getModifiers()) : Modifier.isPrivate(f.getModifiers()));
        }
        holds("the class is final", Modifier.isFinal(StonesAbove.class.getModifiers()));
    }

    private static void members(Class<?> c) {
        Set<String> face = new TreeSet<>();
        for (String told : FACE.split(" ")) {
            face.add(told.substring(0, told.indexOf(':')));
        }
        int fields = 0;
        for (Field f : c.getDeclaredFields()) {
            boolean constant = Modifier.isStatic(f.getModifiers());
            holds(f + " is final if static", !constant || Modifier.isFinal(f.getModifiers()));
            fields += constant ? 0 : 1;
        }
        holds(c + " has twenty fields at most", fields <= 20);
        for (Method m : c.getDeclaredMethods()) {
            boolean ofFace = c == StonesAbove.class && Modifier.isPublic(m.getModifiers());
            holds(m + " bears no name of the face", ofFace || !face.contains(m.getName()));
            holds(m + " takes seven at most", m.getParameterCount() <= 7);
        }
        for (Class<?> inside : c.getDeclaredClasses()) {
            holds(inside + " is static", Modifier.isStatic(inside.getModifiers()));
            members(inside);
        }
    }

    private static String source() throws Exception {
        String text = Files.readString(Path.of("src/main/java/StonesAbove.java"));
        return text.replaceAll("(?s)/\\*.*?\\*/", "").replaceAll("//[^\n]*", "");
    }

    private static void words() throws Exception {
        String code = source();
        String[] refused = {
            "\\b(throw|throws|try|catch|synchronized|assert|package|protected|volatile|native|transient|strictfp)\\b", "->", "::",
            "\\bimport (?!java\\.util\\.(Arrays|ArrayList|List);)", "\\w+Exact\\b", "\\b(Integer|Long)\\.M", "\\bSystem\\.(?!arraycopy\\b)",
            "\\b(float|double)\\b", "\\b(equals|hashCode|toString)\\b", "\\bstatic\\s*\\{", "\\bvar\\b", "\""};
        for (String pattern : refused) {
            Matcher m = Pattern.compile(pattern).matcher(code);
            holds("the source is without " + pattern + (m.find() ? ", but has " + m.group() : ""), !m.reset().find());
        }
        holds("one public class", code.split("\\bclass\\b")[0].contains("public final"));
        holds("signs are 1 to 127", code.chars().allMatch(c -> c < 128));
        holds("objects are made in constructors and fields alone", newsOutsideConstructors(code) == 0);
    }

    /** Each line with new must be a field's or stand in the constructor of the class. */
    private static int newsOutsideConstructors(String code) {
        int outside = 0;
        String depthOne = code.substring(0, code.indexOf("public int type("));
        for (String line : code.substring(depthOne.length()).split("\n")) {
            if (line.matches(".*\\bnew\\b.*") && !line.matches("\\s+private final \\w+\\[\\] \\w+ = new \\w+\\[.*\\];")) {
                outside++;
            }
        }
        return outside;
    }

    private static void methodsAreShort() throws Exception {
        String[] lines = source().split("\n");
        int begin = -1;
        for (int i = 0; i < lines.length; i++) {
            if (lines[i].matches("(    |        )(public |private |static |final )*\\w+(\\[\\])? ?\\w*\\(.*\\) \\{")) {
                begin = i;
            }
            if (begin >= 0 && lines[i].matches("(    |        )\\}")) {
                holds("a method of " + (i - begin + 1) + " lines: " + lines[begin].trim(), i - begin + 1 <= 60);
                begin = -1;
            }
        }
    }

    private static void holds(String told, boolean held) {
        Check.due(told, held ? 1 : 0, 1);
    }
}
