import java.io.IOException;
import java.lang.reflect.Field;
import java.lang.reflect.Method;
import java.lang.reflect.Modifier;
import java.nio.file.Files;
import java.nio.file.Path;
import java.util.regex.Matcher;
import java.util.regex.Pattern;

/** README.md tells what the class does: its example is called, and its tables are compared with the face. */
public final class ReadmeTest {
    private static final Pattern CALL = Pattern.compile("(?m)^menu\\.(\\w+)\\(([^)]*)\\);\\s*// (-?\\d+)");

    private static String readme;

    public static void main(String[] args) throws IOException {
        readme = Files.readString(Path.of("README.md"));
        Due.runAll(ReadmeTest.class);
    }

    /** The example's calls on one object, each with the answer behind it. */
    static void example() throws ReflectiveOperationException {
        FoldedMenu menu = new FoldedMenu();
        Matcher calls = CALL.matcher(readme);
        int found = 0;
        while (calls.find()) {
            found++;
            Due.due("README: " + calls.group(), answer(menu, calls.group(1), calls.group(2)),
                Integer.parseInt(calls.group(3)));
        }
        Due.due("lines of README that call", found, readme.split("\nmenu\\.", -1).length - 1);
        Due.due("README has an example", found > 0 ? 1 : 0, 1);
    }

    /** Each method has a row, with as many parameters as it takes. */
    static void methods() {
        for (Method method : FoldedMenu.class.getDeclaredMethods()) {
            if (Modifier.isPublic(method.getModifiers())) {
                Matcher row = Pattern.compile("(?m)^\\| `" + method.getName() + "\\(([^)]*)\\)` \\|").matcher(readme);
                int parameters = row.find() ? words(row.group(1)).length : -1;
                Due.due("parameters in README's row for " + method.getName(), parameters, method.getParameterCount());
            }
        }
    }

    /** Each constant has a row with its value. */
    static void constants() throws IllegalAccessException {
        for (Field field : FoldedMenu.class.getDeclaredFields()) {
            if (Modifier.isPublic(field.getModifiers())) {
                String row = "| `" + field.getName() + "` | " + field.getInt(null) + " |";
                Due.due("README has " + row, readme.contains(row) ? 1 : 0, 1);
            }
        }
    }

    private static int answer(FoldedMenu menu, String name, String list) throws ReflectiveOperationException {
        String[] words = words(list);
        Class<?>[] types = new Class<?>[words.length];
        Object[] values = new Object[words.length];
        for (int i = 0; i < words.length; i++) {
            types[i] = int.class;
            values[i] = Integer.parseInt(words[i]);
        }
        return (int) FoldedMenu.class.getMethod(name, types).invoke(menu, values);
    }

    private static String[] words(String list) {
        return list.isEmpty() ? new String[0] : list.split(", *");
    }
}
