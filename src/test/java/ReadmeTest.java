import java.io.IOException;
import java.lang.reflect.Method;
import java.lang.reflect.Modifier;
import java.nio.file.Files;
import java.nio.file.Path;
import java.util.regex.Matcher;
import java.util.regex.Pattern;

/** README.md shows what is so: the answers in its example, its text, and every call of the face. */
public final class ReadmeTest {
    private static final Pattern LINE = Pattern.compile(
        "(?m)^(?:int supper = )?parish\\.(\\w+)\\(([^)]*)\\);\\s+// (-?\\d+): ");

    private ReadmeTest() {
    }

    public static void main(String[] args) throws IOException, ReflectiveOperationException {
        String page = Files.readString(Path.of("README.md"));
        example(block(page, "java"));
        text(block(page, "text"));
        eachCallIsNamed(page);
        Due.end();
    }

    private static String block(String page, String sort) {
        Matcher m = Pattern.compile("(?s)```" + sort + "\n(.*?)```").matcher(page);
        Due.holds("there is an example in " + sort, m.find());
        return m.group(1);
    }

    private static void example(String code) throws ReflectiveOperationException {
        WarmGossip x = new WarmGossip();
        Matcher line = LINE.matcher(code);
        int lines = 1;
        for (; line.find(); lines++) {
            String numbers = line.group(2).replace("supper", "0");
            String[] parts = numbers.isEmpty() ? new String[0] : numbers.split(", ");
            Class<?>[] types = new Class<?>[parts.length];
            Object[] arguments = new Object[parts.length];
            for (int i = 0; i < parts.length; i++) {
                types[i] = int.class;
                arguments[i] = Integer.valueOf(parts[i]);
            }
            Number got = (Number) WarmGossip.class.getMethod(line.group(1), types).invoke(x, arguments);
            Due.is(line.group(1) + "(" + numbers + ")", got.longValue(), Long.parseLong(line.group(3)));
        }
        Due.is("each line but the first has its answer", lines, code.split("\n").length);
    }

    private static void text(String told) {
        WarmGossip x = Parishes.withText(told.strip());
        Due.is("its TALES", x.many(0), 2);
        Due.is("HEAT told", x.of(0, 1), 60);
        Due.is("HEAT untold", x.of(1, 1), 50);
        Due.is("FRIEND", x.houseOf(3, 0), 6);
        Due.is("TASTE", x.houseOf(6, 1), 20);
        Due.is("BOX", x.houseOf(2, 2), 1);
        Due.is("AIR", x.lawOf(0), 4);
    }

    private static void eachCallIsNamed(String page) {
        for (Method m : WarmGossip.class.getDeclaredMethods()) {
            if (Modifier.isPublic(m.getModifiers())) {
                Due.holds(m.getName() + " is named in the table", page.contains("`" + m.getName() + "`"));
            }
        }
    }
}
