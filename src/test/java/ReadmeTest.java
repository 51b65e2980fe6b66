import java.io.IOException;
import java.lang.reflect.InvocationTargetException;
import java.lang.reflect.Method;
import java.lang.reflect.Modifier;
import java.nio.file.Files;
import java.nio.file.Path;
import java.util.ArrayList;
import java.util.Arrays;
import java.util.HashMap;
import java.util.List;
import java.util.Map;
import java.util.regex.Matcher;
import java.util.regex.Pattern;

/** What README.md prints: the runs of calls, each with its answer, and the table of what throws. */
public final class ReadmeTest {
    private static final Pattern CALL = Pattern.compile("x\\.(\\w+)\\((.*)\\);\\s+// (.+)");
    private static final Map<String, Method> FACE = new HashMap<>();

    public static void main(String[] args) throws IOException {
        for (Method m : Orderledger.class.getDeclaredMethods()) {
            if (Modifier.isPublic(m.getModifiers())) {
                FACE.put(m.getName(), m);
            }
        }
        List<String> lines = Files.readAllLines(Path.of("README.md"));
        List<String> called = runs(lines);
        Check.same("runs are there", called.size() >= 40, true);
        for (String step : "sample propose endorse submit tick block state".split(" ")) {
            Check.same("the way of a proposal, " + step, called.contains(step), true);
        }
        table(lines);
        Check.end("ReadmeTest");
    }

    /** Makes each call that stands there; tells their names. */
    private static List<String> runs(List<String> lines) {
        List<String> called = new ArrayList<>();
        Orderledger x = null;
        boolean isCode = false;
        for (String line : lines) {
            Matcher m = CALL.matcher(line);
            if (line.startsWith("```")) {
                isCode = line.equals("```java");
            } else if (isCode && line.equals("Orderledger x = new Orderledger();")) {
                x = new Orderledger();
            } else if (isCode && m.matches() && x != null) {
                called.add(m.group(1));
                Check.same("README: " + line, answer(x, m.group(1), m.group(2)), m.group(3));
            } else if (isCode) {
                Check.same("README: neither a call with its answer nor a comment: " + line, line.startsWith("// "), true);
            }
        }
        return called;
    }

    /** As README.md writes it: a text stands in quotes. */
    private static String answer(Orderledger x, String name, String with) {
        Object[] arguments = with.isEmpty() ? new Object[0] : Arrays.stream(with.split(", ")).map(ReadmeTest::argument)
                .toArray();
        try {
            Object got = FACE.get(name).invoke(x, arguments);
            return got instanceof String ? "\"" + got + "\"" : "" + got;
        } catch (InvocationTargetException e) {
            return "throws " + e.getCause().getClass().getSimpleName();
        } catch (IllegalAccessException e) {
            throw new IllegalStateException(e);
        }
    }

    private static Object argument(String told) {
        return told.equals("true") || told.equals("false") ? (Object) told.equals("true") : (Object) Integer.parseInt(told);
    }

    /** Each method of the face stands there once, with just the exceptions that it declares. */
    private static void table(List<String> lines) {
        List<String> named = new ArrayList<>();
        for (String line : lines) {
            String[] cells = line.split("\\|", -1);
            if (!line.startsWith("| `") || cells.length != 6) {
                continue;
            }
            String name = cells[1].replace("`", "").trim();
            named.add(name);
            Method m = FACE.get(name);
            Check.same("README: " + name + " is of the face", m != null, true);
            List<Class<?>> thrown = m == null ? List.of() : Arrays.asList(m.getExceptionTypes());
            Check.same("README: index of " + name, !cells[2].isBlank(), thrown.contains(IndexOutOfBoundsException.class));
            Check.same("README: argument of " + name, !cells[3].isBlank(), thrown.contains(IllegalArgumentException.class));
            Check.same("README: state of " + name, line.contains("IllegalStateException"),
                    thrown.contains(IllegalStateException.class));
        }
        Check.same("README: so many methods", named.size(), 41);
        Check.same("README: each one once", named.stream().distinct().count(), 41L);
    }
}
