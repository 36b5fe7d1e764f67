import java.io.IOException;
import java.lang.reflect.Method;
import java.nio.file.Files;
import java.nio.file.Path;
import java.util.List;
import java.util.regex.Matcher;
import java.util.regex.Pattern;

/** What of ../shared/LANGUAGE.md can be seen from the program's words and from its classes; the rule's number is told. */
public final class LanguageTest {
    private static final Path PROGRAM = Path.of("src/main/java/LampNet.java");
    private static final int MOST_LINES_OF_A_METHOD = 60;
    private static final int MOST_PARAMETERS = 7;
    private static final int MOST_CLASSES = 12;
    private static final int MOST_FIELDS = 20;

    public static void main(String[] args) throws IOException {
        String code = withoutComments(Files.readString(PROGRAM));
        none("rule 2: lambda or method reference", code, "->|::");
        none("rule 4: library beyond what is told", code, "\\b(import|package)\\b|\\bjava\\.|\\w+Exact\\b");
        none("rule 4: but Integer.bitCount, Math.max and Math.min", code,
                "\\b(?!Integer\\.bitCount\\()(?!Math\\.(?:max|min)\\()[A-Z][a-z]\\w*\\.\\w+");
        none("rule 5: static initialiser", code, "\\bstatic\\s*\\{");
        none("rule 6: word", code, "\\b(throw|throws|try|catch|synchronized|assert|equals|hashCode|toString)\\b");
        none("rule 9: a loop without an end", code, "\\bwhile\\s*\\(\\s*true|\\bfor\\s*\\([^;]*;\\s*;");
        methodsAreShort(code);
        classes();
        Check.end();
    }

    private static String withoutComments(String code) {
        return code.replaceAll("(?s)/\\*.*?\\*/", "").replaceAll("//[^\n]*", "");
    }

    private static void none(String what, String code, String pattern) {
        Matcher found = Pattern.compile(pattern).matcher(code);
        boolean isFound = found.find();
        Check.due(what + (isFound ? ": " + found.group() : ""), isFound ? 1 : 0, 0);
    }

    private static void methodsAreShort(String code) {
        Matcher method = Pattern.compile("(?m)^( {4}| {8})\\w[^=;\n]*\\) \\{\n(?s:.*?)^\\1\\}").matcher(code);
        int methods = 0;
        while (method.find()) {
            methods++;
            long lines = method.group().lines().count();
            Check.due("rule 11: " + lines + " lines of " + method.group().lines().findFirst().orElse("").trim(),
                    lines <= MOST_LINES_OF_A_METHOD ? 1 : 0, 1);
        }
        Check.due("methods are found", methods >= LampNet.class.getDeclaredMethods().length ? 1 : 0, 1);
    }

    private static void classes() {
        List<Class<?>> inside = List.of(LampNet.class.getDeclaredClasses());
        Check.due("rule 11: classes", inside.size() < MOST_CLASSES ? 1 : 0, 1);
        parametersAndFields(LampNet.class);
        for (Class<?> one : inside) {
            parametersAndFields(one);
            Check.due("rule 2: no class within " + one, one.getDeclaredClasses().length, 0);
        }
    }

    private static void parametersAndFields(Class<?> one) {
        for (Method method : one.getDeclaredMethods()) {
            Check.due("rule 11: " + method, method.getParameterCount() <= MOST_PARAMETERS ? 1 : 0, 1);
        }
        long fields = List.of(one.getDeclaredFields()).stream()
                .filter(field -> !java.lang.reflect.Modifier.isStatic(field.getModifiers())).count();
        Check.due("rule 11: fields of " + one, fields <= MOST_FIELDS ? 1 : 0, 1);
    }
}
