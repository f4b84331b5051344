import java.io.IOException;
import java.lang.reflect.Constructor;
import java.lang.reflect.Field;
import java.lang.reflect.Method;
import java.lang.reflect.Modifier;
import java.nio.file.Files;
import java.nio.file.Path;
import java.util.HashSet;
import java.util.Set;
import java.util.TreeSet;
import java.util.regex.Matcher;
import java.util.regex.Pattern;

/** The face of the document, and those rules of LANGUAGE.md that a source tells plainly. */
public final class LanguageTest {
    private static final String SOURCE = "src/main/java/WarmGossip.java";
    private static final String DOCUMENT = "../shared/DOC.md";
    private static final String[] FORBIDDEN = {"\\bthrow\\b", "\\btry\\b", "\\bcatch\\b", "\\bsynchronized\\b",
        "\\bassert\\b", "\\bimport\\b", "\\bpackage\\b", "\\bprotected\\b", "\\bnative\\b", "\\bstatic\\s*\\{", "->",
        "::", "@", "Exact\\s*\\(", "\\b(equals|hashCode|toString)\\s*\\([^)]*\\)\\s*\\{", "\"\\s*\\+|\\+\\s*\"",
        "\\bMath\\.random\\b", "\\bcurrentTimeMillis\\b", "\\bnanoTime\\b", "\\brecord\\b", "\\bwhile\\s*\\(true\\)"};
    private static final Pattern METHOD = Pattern.compile(
        "^ +(?:(?:public|private|static|final) )*[\\w\\[\\]]+ (\\w+)\\(([^)]*)\\) \\{$");

    private LanguageTest() {
    }

    public static void main(String[] args) throws IOException {
        String source = Files.readString(Path.of(SOURCE));
        String code = source.replaceAll("(?s)/\\*.*?\\*/", "").replaceAll("//[^\n]*", "");
        face();
        words(source, code);
        sizes(code);
        nestedNames(code);
        made(code);
        Due.end();
    }

    /** The lines of the face, without "public" and the names of the parameters. */
    private static Set<String> promised() throws IOException {
        Set<String> lines = new TreeSet<>();
        Matcher m = Pattern.compile("public (int|long) (\\w+)\\(([^)]*)\\);").matcher(
            Files.readString(Path.of(DOCUMENT)));
        while (m.find()) {
            lines.add(m.group(1) + " " + m.group(2) + "(" + m.group(3).replaceAll(" \\w+(,|$)", "$1") + ")");
        }
        return lines;
    }

    private static void face() throws IOException {
        Set<String> there = new TreeSet<>();
        for (Method m : WarmGossip.class.getDeclaredMethods()) {
            if (Modifier.isPublic(m.getModifiers())) {
                StringBuilder line = new StringBuilder(m.getReturnType() + " " + m.getName() + "(");
                for (Class<?> type : m.getParameterTypes()) {
                    line.append(line.charAt(line.length() - 1) == '(' ? "" : ", ").append(type);
                }
                there.add(line.append(")").toString());
            } else {
                Due.holds(m + " is private", Modifier.isPrivate(m.getModifiers()));
            }
        }
        Due.holds("the face is the promised one: " + there, there.equals(promised()) && there.size() == 46);
        Set<String> constants = new TreeSet<>();
        for (Field f : WarmGossip.class.getDeclaredFields()) {
            if (!Modifier.isPrivate(f.getModifiers())) {
                constants.add(f.getName());
            }
        }
        Due.holds("the constants: " + constants, constants.equals(Set.of("BAD", "FULL", "NONE")));
        Constructor<?>[] constructors = WarmGossip.class.getDeclaredConstructors();
        Due.holds("one constructor", constructors.length == 1 && constructors[0].getParameterCount() == 0);
    }

    private static void words(String source, String code) {
        for (String word : FORBIDDEN) {
            Matcher m = Pattern.compile(word).matcher(code);
            Due.holds("the code has no " + word, !m.find());
        }
        Due.holds("all signs are 1 to 127", source.chars().allMatch(c -> c > 0 && c < 128));
    }

    private static void sizes(String code) {
        Matcher classes = Pattern.compile("\\bclass \\w+").matcher(code);
        Due.holds("at most twelve classes", classes.results().count() <= 12);
        String[] lines = code.split("\n");
        for (int from = 0; from < lines.length; from++) {
            Matcher m = METHOD.matcher(lines[from]);
            if (m.matches()) {
                String end = lines[from].replaceAll("\\S.*", "}");
                int to = from;
                while (!lines[to].equals(end)) {
                    to++;
                }
                Due.holds(m.group(1) + " is short", to - from <= 60);
                Due.holds(m.group(1) + " takes few", m.group(2).split(",").length <= 7);
            }
        }
    }

    private static void nestedNames(String code) {
        Set<String> promised = new HashSet<>();
        for (Method m : WarmGossip.class.getDeclaredMethods()) {
            if (Modifier.isPublic(m.getModifiers())) {
                promised.add(m.getName());
            }
        }
        for (String line : code.split("\n")) {
            Matcher m = METHOD.matcher(line);
            if (m.matches() && !line.startsWith("    public ")) {
                Due.holds(m.group(1) + " has a name of its own", !promised.contains(m.group(1)));
            }
        }
    }

    /** All calls of a run live in one room, so only the constructor and the fields make objects. */
    private static void made(String code) {
        int from = code.indexOf("public WarmGossip() {");
        int to = code.indexOf("\n    }\n", from);
        Due.holds("the constructor is found", from >= 0 && to > from);
        for (String line : (code.substring(0, from) + code.substring(to)).split("\n")) {
            if (line.matches(".*\\bnew\\b.*")) {
                Due.holds("a field's: " + line, line.matches("        final \\w+\\[\\] \\w+ = new \\w+\\[\\w+\\];"));
            }
        }
    }
}
