import java.lang.reflect.Constructor;
import java.lang.reflect.Field;
import java.lang.reflect.Method;
import java.lang.reflect.Modifier;
import java.util.ArrayList;
import java.util.List;
import java.util.Set;
import java.util.TreeSet;

/** The class has the document's face and nothing else that can be seen from outside. */
public final class FaceTest {
    private static final String[] FACE = {
        "int NONE",
        "SpannedCells()",
        "int group()",
        "int row()",
        "int cell(int,int,int,int,int)",
        "boolean border(int,int,int)",
        "boolean layout(int,int,boolean)",
        "int clear()",
        "int columns()",
        "int rows()",
        "int slot(int,int)",
        "int overlaps()",
        "int empties()",
        "int span(int)",
        "int wide(int,int)",
        "int high(int)",
        "int place(int,int)",
        "int size(boolean)",
        "int edge(int,int,boolean)",
    };

    public static void main(String[] args) {
        Due due = new Due("FaceTest");
        Set<String> seen = visibleMembers();
        for (String member : FACE) {
            due.holds("the face has " + member, seen.remove(member));
        }
        for (String member : seen) {
            due.fails("visible beside the face: " + member, true);
        }
        due.is("NONE", SpannedCells.NONE, -1);
        int modifiers = SpannedCells.class.getModifiers();
        due.holds("public and final", Modifier.isPublic(modifiers) && Modifier.isFinal(modifiers));
        checkPrivateMembers(due);
        due.end();
    }

    private static Set<String> visibleMembers() {
        Set<String> seen = new TreeSet<>();
        for (Field field : SpannedCells.class.getDeclaredFields()) {
            if (!Modifier.isPrivate(field.getModifiers())) {
                seen.add(field.getType().getSimpleName() + " " + field.getName());
            }
        }
        for (Constructor<?> made : SpannedCells.class.getDeclaredConstructors()) {
            if (!Modifier.isPrivate(made.getModifiers())) {
                seen.add("SpannedCells" + parameters(made.getParameterTypes()));
            }
        }
        for (Method method : SpannedCells.class.getDeclaredMethods()) {
            if (!Modifier.isPrivate(method.getModifiers())) {
                seen.add(method.getReturnType().getSimpleName() + " " + method.getName()
                    + parameters(method.getParameterTypes()));
            }
        }
        return seen;
    }

    private static String parameters(Class<?>[] types) {
        List<String> names = new ArrayList<>();
        for (Class<?> type : types) {
            names.add(type.getSimpleName());
        }
        return "(" + String.join(",", names) + ")";
    }

    private static void checkPrivateMembers(Due due) {
        Set<String> open = new TreeSet<>();
        for (Method method : SpannedCells.class.getDeclaredMethods()) {
            if (Modifier.isPublic(method.getModifiers())) {
                open.add(method.getName());
            }
        }
        for (Method method : SpannedCells.class.getDeclaredMethods()) {
            if (Modifier.isPrivate(method.getModifiers())) {
                due.fails("a private method named " + method.getName(), open.contains(method.getName()));
            }
        }
        for (Field field : SpannedCells.class.getDeclaredFields()) {
            int modifiers = field.getModifiers();
            due.fails("static state in " + field.getName(),
                Modifier.isStatic(modifiers) && !Modifier.isFinal(modifiers));
        }
    }
}
