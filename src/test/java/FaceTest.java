import java.io.IOException;
import java.lang.reflect.Constructor;
import java.lang.reflect.Field;
import java.lang.reflect.Method;
import java.lang.reflect.Modifier;
import java.nio.file.Files;
import java.nio.file.Path;
import java.util.Arrays;
import java.util.Set;
import java.util.TreeSet;
import java.util.regex.Matcher;
import java.util.regex.Pattern;

/** The public face of the document, and those rules of LANGUAGE.md that can be seen from outside or from the text. */
public final class FaceTest {
    private static final Checks CHECK = new Checks("FaceTest");
    private static final String[] FACE = {
        "person int int int", "of int int", "coat int int int", "tax int int int", "heat int int", "rule int int",
        "type long int", "coats int", "count int", "take int int int int int", "pay int int", "nights int",
        "cut int int", "ring int int int", "rings int", "owed int", "free int int", "saves int int", "bears int",
        "ware int int", "under int int int int", "image", "restore", "judged int int int int", "sheet int int int",
        "drop int", "item int int int int", "copy int int int int int"};
    private static final String[] NAMES = {"BAD", "NOT", "FULL", "NONE", "NULL", "CAST", "INDEX", "SIZE"};
    private static final int[] VALUES = {-1, -2, -3, -4, -11, -12, -13, -14};
    private static final String[] FORBIDDEN = {"->", "::", "finally", "synchronized", "assert ", "catch", "throw",
        "Exact(", "System.out", "Random", "currentTime", "nanoTime", "double", "float", "instanceof", "static {"};

    public static void main(String[] args) throws IOException, ReflectiveOperationException {
        methods();
        constants();
        nestedClasses();
        text();
        hardArguments();
        CHECK.end();
    }

    private static void methods() {
        Set<String> open = new TreeSet<>();
        Set<String> names = new TreeSet<>();
        for (Method m : DebtCoats.class.getDeclaredMethods()) {
            if (!Modifier.isPrivate(m.getModifiers())) {
                StringBuilder row = new StringBuilder(m.getName());
                for (Class<?> type : m.getParameterTypes()) {
                    row.append(' ').append(type.getName());
                }
                open.add(row.toString());
                names.add(m.getName());
                CHECK.holds(row + " is public, of an object, and answers an int", m.getReturnType() == int.class
                    && Modifier.isPublic(m.getModifiers()) && !Modifier.isStatic(m.getModifiers()));
            }
        }
        CHECK.holds("the methods of the face and no other: " + open, open.equals(new TreeSet<>(Arrays.asList(FACE))));
        for (Method m : DebtCoats.class.getDeclaredMethods()) {
            CHECK.holds(m + " bears no public name", !Modifier.isPrivate(m.getModifiers()) || !names.contains(m.getName()));
        }
        Constructor<?>[] made = DebtCoats.class.getDeclaredConstructors();
        CHECK.holds("one constructor", made.length == 1 && made[0].getParameterCount() == 0
            && Modifier.isPublic(made[0].getModifiers()));
        CHECK.holds("final", Modifier.isFinal(DebtCoats.class.getModifiers()));
    }

    private static void constants() throws ReflectiveOperationException {
        for (int k = 0; k < NAMES.length; k++) {
            CHECK.due(NAMES[k], DebtCoats.class.getField(NAMES[k]).getInt(null), VALUES[k]);
        }
        int open = 0;
        for (Field f : DebtCoats.class.getDeclaredFields()) {
            open += Modifier.isPrivate(f.getModifiers()) ? 0 : 1;
            CHECK.holds(f + ": static fields are final",
                !Modifier.isStatic(f.getModifiers()) || Modifier.isFinal(f.getModifiers()));
        }
        CHECK.due("fields that are not private", open, NAMES.length);
    }

    private static void nestedClasses() {
        Class<?>[] inside = DebtCoats.class.getDeclaredClasses();
        CHECK.holds("some twelve classes at most", inside.length < 12);
        for (Class<?> c : inside) {
            CHECK.holds(c + " is static and not public",
                Modifier.isStatic(c.getModifiers()) && !Modifier.isPublic(c.getModifiers()));
            CHECK.holds(c + " has twenty fields at most", c.getDeclaredFields().length <= 20);
        }
    }

    private static void text() throws IOException {
        String source = Files.readString(Path.of("src/main/java/DebtCoats.java"));
        String code = source.replaceAll("(?s)/\\*.*?\\*/", "").replaceAll("//[^\n]*", "");
        for (String word : FORBIDDEN) {
            CHECK.holds("no " + word, !code.contains(word));
        }
        Matcher imports = Pattern.compile("import ([^;]*);").matcher(code);
        while (imports.find()) {
            CHECK.holds("import of " + imports.group(1), imports.group(1).equals("java.util.Arrays"));
        }
        int begun = -1;
        String[] lines = source.split("\n");
        for (int k = 0; k < lines.length; k++) {
            if (lines[k].matches(" {4,8}[a-z].*\\(.*\\{") || lines[k].matches(" {4,8}[a-z][^;=]*\\([^;]*")) {
                begun = k;
            }
            if (lines[k].matches(" {4,8}\\}") && begun >= 0) {
                CHECK.holds("short: " + lines[begun], k - begun < 60);
                begun = -1;
            }
        }
    }

    /** No call throws, whatever it is asked, on a new object and on one that is full. */
    private static void hardArguments() {
        int[] hard = {Integer.MIN_VALUE, -1, 0, 1, 2, 5, 8, 31, 32, 33, 64, 99999, Integer.MAX_VALUE};
        DebtCoats x = new DebtCoats();
        for (int round = 0; round < 2; round++) {
            for (Method m : DebtCoats.class.getMethods()) {
                if (m.getDeclaringClass() == DebtCoats.class) {
                    askAll(x, m, hard);
                }
            }
            for (int p = 0; p < 5; p++) {
                x.person(1, 1, 1);
                for (int c = 0; c < 8; c++) {
                    x.take(p, c % 5, 9999, 20, 9);
                }
                x.sheet(p, p, 24);
            }
        }
    }

    private static void askAll(DebtCoats x, Method m, int[] hard) {
        int n = m.getParameterCount();
        boolean threw = false;
        for (int k = 0; k < Math.pow(hard.length, Math.min(n, 4)) && !threw; k++) {
            Object[] arguments = new Object[n];
            int left = k;
            for (int a = 0; a < n; a++) {
                int v = hard[left % hard.length];
                left = a < 3 ? left / hard.length : left;
                arguments[a] = m.getParameterTypes()[a] == long.class ? (Object) (long) v : (Object) v;
            }
            try {
                m.invoke(x, arguments);
            } catch (ReflectiveOperationException e) {
                threw = true;
                System.out.println(m.getName() + Arrays.toString(arguments) + " threw " + e.getCause());
            }
        }
        CHECK.holds(m.getName() + " never throws", !threw);
    }
}
