import java.io.IOException;
import java.lang.reflect.Constructor;
import java.lang.reflect.Field;
import java.lang.reflect.InvocationTargetException;
import java.lang.reflect.Member;
import java.lang.reflect.Method;
import java.lang.reflect.Modifier;
import java.nio.charset.StandardCharsets;
import java.nio.file.Files;
import java.nio.file.Path;
import java.util.ArrayList;
import java.util.Arrays;
import java.util.List;
import java.util.TreeSet;
import java.util.regex.Pattern;

/** The class shows the face that the document writes out and nothing else, and its source keeps to the language. */
public final class FaceTest {
    private static final Path DOCUMENT = Path.of("../shared/DOC.md");
    private static final Path SOURCE = Path.of("src/main/java/ChairMigration.java");
    private static int wrong = 0;

    private static void fault(String text) {
        wrong++;
        System.out.println(text);
    }

    private static TreeSet<String> documented() throws IOException {
        TreeSet<String> face = new TreeSet<>();
        boolean inFace = false;
        for (String line : Files.readAllLines(DOCUMENT, StandardCharsets.UTF_8)) {
            if (line.startsWith("```")) {
                inFace = line.equals("```java");
            } else if (inFace && line.startsWith("    public ")) {
                face.add(line.trim().replaceAll("\\b(int|char) \\w+(?=[,)])", "$1"));
            }
        }
        return face;
    }

    private static String names(Class<?>[] types) {
        List<String> names = new ArrayList<>();
        for (Class<?> type : types) {
            names.add(type.getSimpleName());
        }
        return String.join(", ", names);
    }

    private static String throwing(Class<?>[] types) {
        return types.length == 0 ? ";" : " throws " + names(types) + ";";
    }

    private static boolean isShown(Member member) {
        return !Modifier.isPrivate(member.getModifiers()) && !member.isSynthetic();
    }

    private static TreeSet<String> shown() throws IllegalAccessException {
        TreeSet<String> face = new TreeSet<>();
        for (Field field : ChairMigration.class.getDeclaredFields()) {
            if (isShown(field)) {
                face.add(Modifier.toString(field.getModifiers()) + " " + field.getType() + " " + field.getName() + " = "
                    + field.getInt(null) + ";");
            }
        }
        for (Constructor<?> constructor : ChairMigration.class.getDeclaredConstructors()) {
            if (isShown(constructor)) {
                face.add(Modifier.toString(constructor.getModifiers()) + " ChairMigration("
                    + names(constructor.getParameterTypes()) + ")" + throwing(constructor.getExceptionTypes()));
            }
        }
        for (Method method : ChairMigration.class.getDeclaredMethods()) {
            if (isShown(method)) {
                face.add(Modifier.toString(method.getModifiers()) + " " + method.getReturnType() + " " + method.getName()
                    + "(" + names(method.getParameterTypes()) + ")" + throwing(method.getExceptionTypes()));
            }
        }
        return face;
    }

    private static void compareFaces() throws IOException, IllegalAccessException {
        TreeSet<String> documented = documented();
        TreeSet<String> shown = shown();
        if (documented.size() != 73) {
            fault("the document has another number of lines of the face: " + documented.size());
        }
        for (String line : documented) {
            if (!shown.contains(line)) {
                fault("not shown: " + line);
            }
        }
        for (String line : shown) {
            if (!documented.contains(line)) {
                fault("not documented: " + line);
            }
        }
    }

    private static void checkPrivateNames() {
        TreeSet<String> open = new TreeSet<>();
        for (Method method : ChairMigration.class.getDeclaredMethods()) {
            if (isShown(method)) {
                open.add(method.getName());
            }
        }
        List<Class<?>> classes = new ArrayList<>(List.of(ChairMigration.class.getDeclaredClasses()));
        classes.add(ChairMigration.class);
        for (Class<?> some : classes) {
            if (some != ChairMigration.class && !Modifier.isStatic(some.getModifiers())) {
                fault(some + " is not static");
            }
            for (Method method : some.getDeclaredMethods()) {
                if ((some != ChairMigration.class || !isShown(method)) && open.contains(method.getName())) {
                    fault(method + " bears the name of a public method");
                }
            }
        }
    }

    private static void checkSource() throws IOException {
        String[] banned = {"\\bcatch\\b", "\\bfinally\\b", "\\bsynchronized\\b", "\\bassert\\b", "->", "::", "\\bpackage\\b",
            "\\bvar\\b", "\\bstatic \\{", "\\w+Exact\\b", "\\bhashCode\\b", "\\btoString\\b", "\\bSystem\\.(?!arraycopy)",
            "import (?!java\\.util\\.NoSuchElementException;)", "[^\\x00-\\x7f]"};
        int number = 0;
        for (String line : Files.readAllLines(SOURCE, StandardCharsets.ISO_8859_1)) {
            number++;
            for (String some : banned) {
                if (Pattern.compile(some).matcher(line).find()) {
                    fault("line " + number + " has " + some + ": " + line.trim());
                }
            }
            checkMaking(number, line);
        }
    }

    /** But for the exceptions that they throw, calls make no objects: all of them are made along with the garden. */
    private static void checkMaking(int number, String line) {
        String code = line.replaceFirst("(//|/\\*|^ *\\*).*", "");
        boolean allowed = code.contains(" throw new ") || code.matches(" +private final \\S+ \\w+ = new .*")
            || code.matches(" +(chairs|past)\\[index\\] = new .*");
        if (!allowed && Pattern.compile("\\bnew\\b").matcher(code).find()) {
            fault("line " + number + " makes an object: " + line.trim());
        }
    }

    private static void checkStaticFields(Class<?> some) {
        for (Field field : some.getDeclaredFields()) {
            boolean plain = field.getType().isPrimitive() || field.getType() == String.class;
            if (Modifier.isStatic(field.getModifiers()) && !(Modifier.isFinal(field.getModifiers()) && plain)) {
                fault(field + " is static, but no constant");
            }
        }
    }

    private static void checkSizes() {
        List<Class<?>> classes = new ArrayList<>(List.of(ChairMigration.class.getDeclaredClasses()));
        classes.add(ChairMigration.class);
        if (classes.size() > 12) {
            fault("more than twelve classes: " + classes.size());
        }
        for (Class<?> some : classes) {
            checkStaticFields(some);
            int fields = 0;
            for (Field field : some.getDeclaredFields()) {
                fields += Modifier.isStatic(field.getModifiers()) ? 0 : 1;
            }
            if (fields > 20) {
                fault(some + " has more than twenty fields: " + fields);
            }
            for (Method method : some.getDeclaredMethods()) {
                if (method.getParameterCount() > 7) {
                    fault(method + " takes more than seven parameters");
                }
            }
        }
    }

    private static ChairMigration inUse() {
        ChairMigration x = new ChairMigration();
        x.addPath(0, 5);
        x.addPath(5, 1);
        for (int chair = 0; chair < 12; chair++) {
            x.addChair(chair % 3, 9 - chair % 3);
        }
        x.fold(4);
        x.passDays(1);
        x.writeLawn(0);
        x.saveSnapshot();
        return x;
    }

    /** Whatever the arguments are, a call answers or throws the very class of one of the exceptions of its method. */
    private static void callWithEveryArgument() throws IllegalAccessException {
        int[] values = {0, 1, 5, 6, 11, 12, 20, 21, 60, 64, -1, Integer.MIN_VALUE, Integer.MAX_VALUE};
        for (Method method : ChairMigration.class.getDeclaredMethods()) {
            int count = method.getParameterCount();
            for (int number = 0; isShown(method) && number < Math.pow(values.length, count); number++) {
                Object[] arguments = new Object[count];
                for (int i = 0, rest = number; i < count; i++, rest /= values.length) {
                    int value = values[rest % values.length];
                    arguments[i] = method.getParameterTypes()[i] == char.class ? (Object) (char) value : (Object) value;
                }
                call(method, new ChairMigration(), arguments);
                call(method, inUse(), arguments);
            }
        }
    }

    private static void call(Method method, ChairMigration x, Object[] arguments) throws IllegalAccessException {
        try {
            method.invoke(x, arguments);
        } catch (InvocationTargetException e) {
            Class<?> thrown = e.getCause().getClass();
            if (!List.of(method.getExceptionTypes()).contains(thrown)) {
                fault(method.getName() + Arrays.toString(arguments) + " throws " + thrown);
            }
        }
    }

    public static void main(String[] args) throws IOException, IllegalAccessException {
        Checks.limitTime();
        compareFaces();
        checkPrivateNames();
        checkSource();
        checkSizes();
        callWithEveryArgument();
        System.out.println(wrong == 0 ? "the face is as documented" : wrong + " faults of the face");
        if (wrong != 0) {
            System.exit(1);
        }
    }
}
