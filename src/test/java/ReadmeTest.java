import java.io.IOException;
import java.lang.reflect.Method;
import java.nio.file.Files;
import java.nio.file.Path;
import java.util.Set;
import java.util.TreeSet;
import java.util.regex.Matcher;
import java.util.regex.Pattern;

/** README.md tells the truth: each call that it shows, with the answer behind it, and every call of the face. */
public final class ReadmeTest {
    private static final Pattern MAKING = Pattern.compile("LampNet net = new LampNet\\(\\);");
    private static final Pattern CALL = Pattern.compile("net\\.(\\w+)\\(([-0-9, ]*)\\);\\s*// (-?\\d+)\\b.*");

    public static void main(String[] args) throws IOException, ReflectiveOperationException {
        LampNet net = null;
        Set<String> shown = new TreeSet<>();
        for (String line : Files.readAllLines(Path.of("README.md"))) {
            Matcher call = CALL.matcher(line);
            if (MAKING.matcher(line).matches()) {
                net = new LampNet();
            } else if (call.matches()) {
                shown.add(call.group(1));
                Check.due(line, answer(net, call.group(1), call.group(2)), Integer.parseInt(call.group(3)));
            } else {
                Check.due("a call with its answer: " + line, line.startsWith("net.") ? 1 : 0, 0);
            }
        }
        for (Method method : LampNet.class.getMethods()) {
            if (method.getDeclaringClass() == LampNet.class) {
                Check.due("shown: " + method.getName(), shown.contains(method.getName()) ? 1 : 0, 1);
            }
        }
        Check.end();
    }

    private static int answer(LampNet net, String name, String told) throws ReflectiveOperationException {
        String[] parts = told.isBlank() ? new String[0] : told.split(", ");
        Method method = named(name);
        Object[] values = new Object[parts.length];
        for (int i = 0; i < parts.length; i++) {
            boolean isLong = method.getParameterTypes()[i] == long.class;
            values[i] = isLong ? (Object) Long.valueOf(parts[i]) : (Object) Integer.valueOf(parts[i]);
        }
        return (Integer) method.invoke(net, values);
    }

    private static Method named(String name) {
        for (Method method : LampNet.class.getMethods()) {
            if (method.getName().equals(name)) {
                return method;
            }
        }
        throw new IllegalStateException("README.md shows a call that there is not: " + name);
    }
}
