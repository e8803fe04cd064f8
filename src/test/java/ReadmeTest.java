import java.io.IOException;
import java.lang.reflect.InvocationTargetException;
import java.lang.reflect.Method;
import java.nio.file.Files;
import java.nio.file.Path;
import java.util.List;
import java.util.TreeSet;
import java.util.regex.Matcher;
import java.util.regex.Pattern;

/** The README's calls answer what it says of them, and it leaves out no call and no constant. */
public final class ReadmeTest {
    private static final int LEAST_CALLS = 20;
    private static final String MAKES = "OvertakingLoads x = new OvertakingLoads();";
    private static final Pattern CALL = Pattern.compile("x\\.(\\w+)\\((.*?)\\);\\s*// (-?\\d+)\\b.*");

    public static void main(String[] args) throws IOException, ReflectiveOperationException {
        List<String> lines = Files.readAllLines(Path.of("README.md"));
        examples(lines);
        namesAll(String.join("\n", lines));
        Check.end("ReadmeTest");
    }

    private static void examples(List<String> lines) throws ReflectiveOperationException {
        boolean inside = false;
        int calls = 0;
        OvertakingLoads x = new OvertakingLoads();
        for (String line : lines) {
            if (line.startsWith("```")) {
                inside = line.equals("```java");
            } else if (inside && line.equals(MAKES)) {
                x = new OvertakingLoads();
            } else if (inside) {
                Matcher matcher = CALL.matcher(line);
                Check.holds("a call with its answer: " + line, matcher.matches());
                Check.due(line, call(x, matcher.group(1), matcher.group(2)), Integer.parseInt(matcher.group(3)));
                calls++;
            }
        }
        Check.holds("there are examples", calls >= LEAST_CALLS);
    }

    private static int call(OvertakingLoads x, String name, String arguments)
            throws IllegalAccessException, InvocationTargetException {
        String[] parts = arguments.isEmpty() ? new String[0] : arguments.split(", ");
        for (Method method : OvertakingLoads.class.getMethods()) {
            if (method.getName().equals(name) && method.getParameterCount() == parts.length) {
                Object[] values = new Object[parts.length];
                for (int i = 0; i < parts.length; i++) {
                    values[i] = value(parts[i]);
                }
                return (int) method.invoke(x, values);
            }
        }
        Check.holds("there is a method " + name, false);
        return 0;
    }

    /** A character in quotes, or a number. */
    private static Object value(String part) {
        if (part.startsWith("'")) {
            return part.charAt(1);
        }
        return Integer.valueOf(part);
    }

    private static void namesAll(String readme) {
        TreeSet<String> names = new TreeSet<>();
        for (Method method : OvertakingLoads.class.getDeclaredMethods()) {
            if (java.lang.reflect.Modifier.isPublic(method.getModifiers())) {
                names.add(method.getName() + "(");
            }
        }
        names.addAll(List.of("UNKNOWN", "BAD_VALUE", "FULL", "NOT_POSSIBLE", "NONE"));
        for (String name : names) {
            Check.holds("the README names " + name, readme.contains("`" + name));
        }
    }
}
