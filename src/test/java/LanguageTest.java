import java.io.IOException;
import java.lang.reflect.Constructor;
import java.lang.reflect.Executable;
import java.lang.reflect.Field;
import java.lang.reflect.Method;
import java.lang.reflect.Modifier;
import java.nio.file.Files;
import java.nio.file.Path;
import java.util.ArrayList;
import java.util.List;
import java.util.Set;
import java.util.regex.Matcher;
import java.util.regex.Pattern;

/** Those rules of LANGUAGE.md that can be seen from the file's text or from the compiled class. */
public final class LanguageTest {
    private static final Path FILE = Path.of("src/main/java/SpannedCells.java");
    private static final Set<String> IMPORTS = Set.of("java.util.ArrayList", "java.util.List",
        "java.util.Arrays", "java.util.Iterator", "java.util.NoSuchElementException");
    /** What no rule leaves: words of the language, and parts of the library that are near at hand. */
    private static final String[] FORBIDDEN = {
        "\\bpackage\\b", "\\bfinally\\b", "\\bsynchronized\\b", "\\bassert\\b", "\\bvolatile\\b",
        "\\bnative\\b", "\\bthrows\\b", "->", "::", "\\bstatic\\s*\\{",
        "\\bSystem\\.(?!arraycopy\\b)", "\\bArrays\\.(?!copyOf\\b|copyOfRange\\b|fill\\b)",
        "Exact\\b", "\\bThread\\b", "\\bRandom\\b", "\\bHashMap\\b", "\\bMap\\b",
        "\\bgetClass\\b", "\\bhashCode\\b", "\\bException\\b", "\\bError\\b",
        "\\bjava\\.(?!util\\.)", "\\bjavax\\b",
    };
    private static final int MOST_PARAMETERS = 7;
    private static final int MOST_CLASSES = 12;
    private static final int MOST_FIELDS = 20;
    private static final int MOST_LINES_OF_A_METHOD = 60;
    private static final Due DUE = new Due("LanguageTest");

    public static void main(String[] args) throws IOException {
        String text = Files.readString(FILE);
        checkWords(withoutComments(text));
        checkImports(text);
        checkLengths(text.split("\n"));
        List<Class<?>> classes = new ArrayList<>();
        collect(SpannedCells.class, classes);
        DUE.holds("11: at most some twelve classes", classes.size() <= MOST_CLASSES);
        for (Class<?> each : classes) {
            checkClass(each);
            checkFields(each);
            checkParameters(each);
        }
        DUE.end();
    }

    private static String withoutComments(String text) {
        return text.replaceAll("(?s)/\\*.*?\\*/", " ").replaceAll("//[^\n]*", " ");
    }

    private static void checkWords(String code) {
        for (String word : FORBIDDEN) {
            DUE.fails("outside the rules: " + word, Pattern.compile(word).matcher(code).find());
        }
        DUE.fails("3: arrays of three dimensions", code.contains("[][][]"));
        for (char c : code.toCharArray()) {
            if (c > 255) {
                DUE.fails("3: characters 0 to 255 alone", true);
            }
        }
    }

    private static void checkImports(String text) {
        Matcher found = Pattern.compile("(?m)^import\\s+(.*);").matcher(text);
        while (found.find()) {
            DUE.holds("4: import " + found.group(1), IMPORTS.contains(found.group(1)));
        }
    }

    /** A method's last line has its closing brace alone, as deep in as the method's first line. */
    private static void checkLengths(String[] lines) {
        Pattern head = Pattern.compile("( {4,})[\\w<>\\[\\] ]+\\(.*\\) \\{");
        for (int i = 0; i < lines.length; i++) {
            Matcher method = head.matcher(lines[i]);
            if (method.matches()) {
                String end = method.group(1) + "}";
                int last = i;
                while (last < lines.length && !lines[last].equals(end)) {
                    last++;
                }
                DUE.holds("11: short: " + lines[i].trim(), last - i < MOST_LINES_OF_A_METHOD);
            }
        }
    }

    private static void collect(Class<?> from, List<Class<?>> classes) {
        classes.add(from);
        for (Class<?> inner : from.getDeclaredClasses()) {
            collect(inner, classes);
        }
    }

    private static void checkClass(Class<?> each) {
        if (each != SpannedCells.class) {
            int modifiers = each.getModifiers();
            DUE.holds("1: static: " + each, Modifier.isStatic(modifiers));
            DUE.fails("1: seen from outside: " + each,
                Modifier.isPublic(modifiers) || Modifier.isProtected(modifiers));
        }
    }

    private static void checkFields(Class<?> each) {
        int own = 0;
        for (Field field : each.getDeclaredFields()) {
            boolean constant = Modifier.isStatic(field.getModifiers());
            own += constant ? 0 : 1;
            DUE.holds("5: final: " + field, !constant || Modifier.isFinal(field.getModifiers()));
        }
        DUE.holds("11: some twenty fields at most: " + each, own <= MOST_FIELDS);
    }

    private static void checkParameters(Class<?> each) {
        List<Executable> all = new ArrayList<>();
        for (Constructor<?> made : each.getDeclaredConstructors()) {
            all.add(made);
        }
        for (Method method : each.getDeclaredMethods()) {
            all.add(method);
        }
        for (Executable one : all) {
            DUE.holds("11: at most seven parameters: " + one, one.getParameterCount() <= MOST_PARAMETERS);
        }
    }
}
