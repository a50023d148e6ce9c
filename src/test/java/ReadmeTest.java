import java.io.IOException;
import java.lang.reflect.Method;
import java.lang.reflect.Modifier;
import java.nio.file.Files;
import java.nio.file.Path;
import java.util.regex.Matcher;
import java.util.regex.Pattern;

/** The example of README.md answers what it says there, and README.md names every call. */
public final class ReadmeTest {
    private static final Pattern LINE = Pattern.compile("^x\\.(\\w+)\\((.*?)\\); +// (-?\\d+): ");

    public static void main(String[] args) throws IOException, ReflectiveOperationException {
        String readme = Files.readString(Path.of("README.md"));
        Due due = new Due();
        HoleWater x = new HoleWater();
        int calls = 0;
        for (String line : readme.lines().toList()) {
            if (line.startsWith("x.")) {
                Matcher call = LINE.matcher(line);
                boolean read = call.find();
                due.is(line, read ? answer(x, call.group(1), call.group(2)) : 0, read ? Long.parseLong(call.group(3)) : 1);
                calls++;
            }
        }
        due.is("README.md has an example", calls > 0 ? 1 : 0, 1);
        for (Method method : HoleWater.class.getDeclaredMethods()) {
            if (Modifier.isPublic(method.getModifiers())) {
                due.is("README.md names " + method.getName(), readme.contains("`" + method.getName() + "`") ? 1 : 0, 1);
            }
        }
        due.end();
    }

    private static int answer(HoleWater x, String name, String given) throws ReflectiveOperationException {
        String[] parts = given.isEmpty() ? new String[0] : given.split(", ");
        for (Method method : HoleWater.class.getDeclaredMethods()) {
            Class<?>[] types = method.getParameterTypes();
            if (method.getName().equals(name) && types.length == parts.length) {
                Object[] arguments = new Object[parts.length];
                for (int i = 0; i < parts.length; i++) {
                    arguments[i] = types[i] == boolean.class ? (Object) Boolean.valueOf(parts[i])
                        : types[i] == long.class ? (Object) Long.decode(parts[i].replace("L", "")) : Integer.valueOf(parts[i]);
                }
                return (int) method.invoke(x, arguments);
            }
        }
        return Integer.MAX_VALUE;
    }
}
