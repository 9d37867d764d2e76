import java.io.IOException;
import java.lang.reflect.Method;
import java.nio.file.Files;
import java.nio.file.Path;
import java.util.Set;
import java.util.TreeSet;
import java.util.regex.Matcher;
import java.util.regex.Pattern;

/** The calls that README.md shows answer what it says, and it shows every method of the face. */
public final class ReadmeTest {
    private static final Pattern CALL =
        Pattern.compile("table\\.(\\w+)\\((.*)\\);\\s+// (-?\\d+|true|false)(:.*)?");
    private static final Due DUE = new Due("ReadmeTest");

    public static void main(String[] args) throws IOException {
        String readme = Files.readString(Path.of("README.md"));
        Set<String> shown = new TreeSet<>();
        SpannedCells table = new SpannedCells();
        for (String line : exampleOf(readme)) {
            if (line.startsWith("table.")) {
                shown.add(check(line, table));
            }
        }
        for (Method method : SpannedCells.class.getMethods()) {
            if (method.getDeclaringClass() == SpannedCells.class) {
                DUE.holds("the example shows " + method.getName(), shown.contains(method.getName()));
                DUE.holds("a table tells " + method.getName(), readme.contains("`" + method.getName() + "("));
            }
        }
        DUE.end();
    }

    private static String[] exampleOf(String readme) {
        int from = readme.indexOf("```java\n");
        int to = readme.indexOf("```", from + 1);
        DUE.holds("README.md has an example", 0 <= from && from < to);
        return from < 0 ? new String[0] : readme.substring(from, to).split("\n");
    }

    /** Makes the call of this line of the example; answers the name of the method. */
    private static String check(String line, SpannedCells table) {
        Matcher call = CALL.matcher(line);
        if (!call.matches()) {
            DUE.holds("readable: " + line, false);
            return "";
        }
        DUE.is(line, answer(table, call.group(1), call.group(2)), number(call.group(3)));
        return call.group(1);
    }

    private static long answer(SpannedCells table, String name, String arguments) {
        String[] texts = arguments.isEmpty() ? new String[0] : arguments.split(", ");
        for (Method method : SpannedCells.class.getMethods()) {
            if (method.getName().equals(name) && method.getParameterCount() == texts.length) {
                return invoke(table, method, texts);
            }
        }
        throw new IllegalStateException("the face has no " + name);
    }

    private static long invoke(SpannedCells table, Method method, String[] texts) {
        Object[] arguments = new Object[texts.length];
        for (int i = 0; i < texts.length; i++) {
            if (method.getParameterTypes()[i] == boolean.class) {
                arguments[i] = Boolean.valueOf(texts[i]);
            } else {
                arguments[i] = Integer.valueOf(texts[i]);
            }
        }
        try {
            return number(method.invoke(table, arguments).toString());
        } catch (ReflectiveOperationException e) {
            throw new IllegalStateException(method.getName(), e);
        }
    }

    private static long number(String answer) {
        if (answer.equals("true") || answer.equals("false")) {
            return answer.equals("true") ? 1 : 0;
        }
        return Long.parseLong(answer);
    }
}
