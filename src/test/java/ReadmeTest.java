import java.io.IOException;
import java.lang.reflect.Method;
import java.lang.reflect.Modifier;
import java.nio.file.Files;
import java.nio.file.Path;
import java.util.HashSet;
import java.util.Set;
import java.util.regex.Matcher;
import java.util.regex.Pattern;

/** The calls that README.md shows, each with a comment that begins with its answer; every call of the face is shown. */
public final class ReadmeTest {
    private static final Checks CHECK = new Checks("ReadmeTest");
    private static final Pattern CALL = Pattern.compile("x\\.(\\w+)\\(([^)]*)\\); +// (-?\\d+)\\b.*");

    public static void main(String[] args) throws IOException, ReflectiveOperationException {
        String page = Files.readString(Path.of("README.md"));
        Matcher blocks = Pattern.compile("(?s)```java\n(.*?)```").matcher(page);
        Set<String> shown = new HashSet<>();
        while (blocks.find()) {
            makeCalls(blocks.group(1), shown);
        }
        for (Method m : DebtCoats.class.getDeclaredMethods()) {
            if (Modifier.isPublic(m.getModifiers())) {
                CHECK.holds(m.getName() + " is shown", shown.contains(m.getName()));
                CHECK.holds(m.getName() + " is told", page.contains("`" + m.getName() + "("));
            }
        }
        CHECK.end();
    }

    private static void makeCalls(String block, Set<String> shown) throws ReflectiveOperationException {
        DebtCoats x = new DebtCoats();
        for (String line : block.split("\n")) {
            if (line.equals("DebtCoats x = new DebtCoats();")) {
                x = new DebtCoats();
                continue;
            }
            Matcher call = CALL.matcher(line);
            CHECK.holds("a call with its answer: " + line, call.matches());
            if (call.matches()) {
                shown.add(call.group(1));
                CHECK.due(line, answer(x, call.group(1), call.group(2)), Long.parseLong(call.group(3)));
            }
        }
    }

    private static int answer(DebtCoats x, String name, String told) throws ReflectiveOperationException {
        String[] words = told.isEmpty() ? new String[0] : told.split(", ");
        for (Method m : DebtCoats.class.getDeclaredMethods()) {
            if (m.getName().equals(name) && m.getParameterCount() == words.length) {
                Object[] arguments = new Object[words.length];
                for (int k = 0; k < words.length; k++) {
                    long v = Long.decode(words[k].replace("L", ""));
                    boolean isLong = m.getParameterTypes()[k] == long.class;
                    arguments[k] = isLong ? (Object) v : (Object) (int) v;
                }
                return (Integer) m.invoke(x, arguments);
            }
        }
        throw new NoSuchMethodException(name + "(" + told + ")");
    }
}
