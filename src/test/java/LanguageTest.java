import java.io.IOException;
import java.lang.reflect.Field;
import java.lang.reflect.Method;
import java.lang.reflect.Modifier;
import java.nio.file.Files;
import java.nio.file.Path;
import java.util.Set;
import java.util.TreeSet;
import java.util.regex.Matcher;
import java.util.regex.Pattern;

/** Those rules of ../shared/LANGUAGE.md that can be seen in the source or by reflection. */
public final class LanguageTest {
    private static final Set<String> FACE = Set.of("addDish(6)", "removeDish(1)", "setDish(3)", "setCard(2)",
        "setSide(2)", "arrange(0)", "choose(3)", "take(1)", "restore(1)", "undo(0)", "append(1)", "clearText(0)",
        "load(0)", "count(1)", "card(1)", "dish(2)", "line(3)", "account(2)", "why(1)", "replacement(1)",
        "evenSeasons(0)", "printedFor(1)", "bestSides(1)", "bestSet(4)");
    private static final String[] FORBIDDEN = {"throw", "throws", "try", "catch", "finally", "synchronized", "assert",
        "import", "package", "protected", "equals", "hashCode", "toString", "Exact", "Object", "volatile", "->", "::",
        "System\\.(?!arraycopy)", "float", "double"};

    public static void main(String[] args) throws IOException {
        face();
        nestedClasses();
        words();
        Due.end();
    }

    private static void face() {
        Class<?> menu = FoldedMenu.class;
        Due.due("public and final", menu.getModifiers(), Modifier.PUBLIC | Modifier.FINAL);
        Due.due("constructors", menu.getDeclaredConstructors().length, 1);
        Due.due("the constructor is public", menu.getDeclaredConstructors()[0].getModifiers(), Modifier.PUBLIC);
        Set<String> found = new TreeSet<>();
        Set<String> names = new TreeSet<>();
        for (Method method : menu.getDeclaredMethods()) {
            if (Modifier.isPublic(method.getModifiers())) {
                found.add(method.getName() + "(" + method.getParameterCount() + ")");
                names.add(method.getName());
                Due.due(method + " gives an int", method.getReturnType() == int.class ? 1 : 0, 1);
            } else {
                Due.due(method + " is private", Modifier.isPrivate(method.getModifiers()) ? 1 : 0, 1);
            }
            Due.due(method + " has at most seven parameters", method.getParameterCount() <= 7 ? 1 : 0, 1);
        }
        Due.due("the face " + found, found.equals(FACE) ? 1 : 0, 1);
        for (Method method : menu.getDeclaredMethods()) {
            boolean clashes = !Modifier.isPublic(method.getModifiers()) && names.contains(method.getName());
            Due.due(method + " bears a public name", clashes ? 1 : 0, 0);
        }
        for (Field field : menu.getDeclaredFields()) {
            boolean isConstant = Set.of("INVALID_ARGUMENT", "ILLEGAL_STATE", "CAPACITY_EXCEEDED", "NONE")
                .contains(field.getName());
            int modifiers = field.getModifiers();
            Due.due(field + " is as public as is due", Modifier.isPublic(modifiers) ? 1 : 0, isConstant ? 1 : 0);
            Due.due(field + " is final", Modifier.isFinal(modifiers) ? 1 : 0, 1);
            Due.due(field + " is private or a constant", isConstant || Modifier.isPrivate(modifiers) ? 1 : 0, 1);
        }
    }

    private static void nestedClasses() {
        Class<?>[] nested = FoldedMenu.class.getDeclaredClasses();
        Due.due("some twelve classes", nested.length <= 11 ? 1 : 0, 1);
        for (Class<?> one : nested) {
            Due.due(one + " is static", Modifier.isStatic(one.getModifiers()) ? 1 : 0, 1);
            Due.due(one + " is not public", Modifier.isPublic(one.getModifiers()) ? 1 : 0, 0);
            int fields = 0;
            for (Field field : one.getDeclaredFields()) {
                boolean isStatic = Modifier.isStatic(field.getModifiers());
                fields += isStatic ? 0 : 1;
                Due.due(field + " is no static state", isStatic && !Modifier.isFinal(field.getModifiers()) ? 1 : 0, 0);
            }
            Due.due(one + " has some twenty fields", fields <= 20 ? 1 : 0, 1);
        }
    }

    private static void words() throws IOException {
        String source = Files.readString(Path.of("src/main/java/FoldedMenu.java"));
        String code = source.replaceAll("(?s)/\\*.*?\\*/", "").replaceAll("//[^\n]*", "");
        for (String word : FORBIDDEN) {
            String pattern = word.matches("\\w+") ? "\\b" + word + "\\b" : word;
            Matcher matcher = Pattern.compile(pattern).matcher(code);
            Due.due("forbidden: " + word, matcher.find() ? 1 : 0, 0);
        }
    }
}
