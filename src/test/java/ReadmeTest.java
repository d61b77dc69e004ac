import java.io.IOException;
import java.lang.reflect.InvocationTargetException;
import java.lang.reflect.Method;
import java.lang.reflect.Modifier;
import java.nio.charset.StandardCharsets;
import java.nio.file.Files;
import java.nio.file.Path;
import java.util.Set;
import java.util.TreeSet;
import java.util.regex.Matcher;
import java.util.regex.Pattern;

/**
 * What README.md shows of the use of the class: each call there is made, and must answer what stands beside it.
 * The file itself is read, so that no call can stand there untried.
 */
public final class ReadmeTest {
    private static final Path README = Path.of("README.md");
    private static final Pattern NEW_OBJECT = Pattern.compile("TempoMaps map = new TempoMaps\\(\\);");
    private static final Pattern CALL = Pattern.compile(
            "map\\.(\\w+)\\(([-0-9, ]*)\\); +// (-?\\d+)(?: \\(([A-Z]+)\\))?(?:[: ].*)?");
    private static final Pattern CONSTANT = Pattern.compile("`([A-Z]+)` \\((-?\\d+)\\)");

    private static final Set<String> shownMethods = new TreeSet<>();
    private static final Set<String> shownConstants = new TreeSet<>();
    private static TempoMaps map;
    private static int calls = 0;
    private static int wrong = 0;

    private static void check(String what, boolean holds) {
        if (!holds) {
            wrong++;
            System.out.println("README.md: " + what);
        }
    }

    public static void main(String[] args) throws IOException, ReflectiveOperationException {
        String text = Files.readString(README, StandardCharsets.UTF_8);
        boolean isCode = false;
        for (String line : text.split("\n")) {
            if (line.startsWith("```")) {
                isCode = line.equals("```java");
                map = null;
            } else if (isCode && !line.isBlank()) {
                tryLine(line);
            } else {
                tryConstants(line);
            }
        }
        check("a block of code does not end", !isCode);
        check("shows " + shownMethods + ", not the whole face", shownMethods.equals(namesOfTheFace()));
        check("tells " + shownConstants + ", not all constants",
                shownConstants.equals(Set.of("NONE", "OUTSIDE", "STATE", "ROOM")));
        System.out.println(wrong == 0 ? "all " + calls + " calls answer what README.md shows"
                : wrong + " things are not as README.md shows them");
        if (wrong != 0) {
            System.exit(1);
        }
    }

    private static void tryLine(String line) throws ReflectiveOperationException {
        if (NEW_OBJECT.matcher(line).matches()) {
            map = new TempoMaps();
            return;
        }
        Matcher call = CALL.matcher(line);
        if (map == null || !call.matches()) {
            check("no call with its answer, or on no object: " + line, false);
            return;
        }
        long due = Long.parseLong(call.group(3));
        long got = answerOf(call.group(1), call.group(2));
        calls++;
        shownMethods.add(call.group(1));
        check(line + " answered " + got, got == due);
        check("a refusal bears its name: " + line, (call.group(4) != null) == (due < 0));
        if (call.group(4) != null) {
            check("another name is due: " + line, valueOf(call.group(4)) == due);
        }
    }

    private static long answerOf(String name, String numbers) throws ReflectiveOperationException {
        String[] words = numbers.isBlank() ? new String[0] : numbers.split(", ");
        Method method = methodOf(name, words.length);
        Object[] arguments = new Object[words.length];
        for (int i = 0; i < words.length; i++) {
            boolean isLong = method.getParameterTypes()[i] == long.class;
            // By an int first: what is shown without an L must be one, or it would not compile.
            int number = Integer.parseInt(words[i]);
            arguments[i] = isLong ? (Object) (long) number : (Object) number;
        }
        try {
            return ((Number) method.invoke(map, arguments)).longValue();
        } catch (InvocationTargetException e) {
            throw new IllegalStateException(name + "(" + numbers + ") has thrown", e.getCause());
        }
    }

    private static Method methodOf(String name, int parameters) throws NoSuchMethodException {
        for (Method method : TempoMaps.class.getDeclaredMethods()) {
            if (Modifier.isPublic(method.getModifiers()) && method.getName().equals(name)
                    && method.getParameterCount() == parameters) {
                return method;
            }
        }
        throw new NoSuchMethodException("README.md shows " + name + " with " + parameters + " numbers");
    }

    private static void tryConstants(String line) throws ReflectiveOperationException {
        Matcher constant = CONSTANT.matcher(line);
        while (constant.find()) {
            shownConstants.add(constant.group(1));
            check("not the value of " + constant.group(),
                    valueOf(constant.group(1)) == Long.parseLong(constant.group(2)));
        }
    }

    private static long valueOf(String constant) throws ReflectiveOperationException {
        return TempoMaps.class.getField(constant).getInt(null);
    }

    private static Set<String> namesOfTheFace() {
        Set<String> names = new TreeSet<>();
        for (Method method : TempoMaps.class.getDeclaredMethods()) {
            if (Modifier.isPublic(method.getModifiers())) {
                names.add(method.getName());
            }
        }
        return names;
    }
}
