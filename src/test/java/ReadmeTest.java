import java.io.File;
import java.io.IOException;
import java.lang.reflect.Method;
import java.lang.reflect.Modifier;
import java.nio.file.Files;
import java.nio.file.Path;
import java.util.Set;
import java.util.TreeSet;
import java.util.regex.Matcher;
import java.util.regex.Pattern;

/** README.md tells the truth: its calls answer what stands behind them; it shows every call and names every test. */
public final class ReadmeTest {
    private static final Pattern CALL = Pattern.compile("x\\.(\\w+)\\((.*)\\);\\s+// (-?\\d+)(:.*)?");
    private static final Pattern BLOCK = Pattern.compile("(?s)```java\n(.*?)```");

    public static void main(String[] args) throws IOException, ReflectiveOperationException {
        String root = System.getProperty("project.root", ".");
        String page = Files.readString(Path.of(root, "README.md"));
        Set<String> called = runThePage(page);
        for (Method method : SparseChecks.class.getDeclaredMethods()) {
            if (Modifier.isPublic(method.getModifiers())) {
                Due.holds("README.md shows " + method.getName(), called.contains(method.getName()));
            }
        }
        for (File test : new File(root, "src/test/java").listFiles((folder, name) -> name.endsWith(".java"))) {
            String name = test.getName().replace(".java", "");
            Due.holds("README.md names " + name, Pattern.compile("\\b" + name + "\\b").matcher(page).find());
        }
        Due.end();
    }

    /** Makes the calls of all its blocks, one behind the other, on one object: which there were. */
    private static Set<String> runThePage(String page) throws ReflectiveOperationException {
        Set<String> called = new TreeSet<>();
        SparseChecks x = new SparseChecks();
        Matcher blocks = BLOCK.matcher(page);
        while (blocks.find()) {
            for (String line : blocks.group(1).split("\n")) {
                Matcher call = CALL.matcher(line);
                if (call.matches()) {
                    called.add(call.group(1));
                    Due.is(line.trim(), answer(x, call.group(1), call.group(2)), Long.parseLong(call.group(3)));
                } else {
                    Due.holds("a call with its answer: " + line, line.equals("SparseChecks x = new SparseChecks();"));
                }
            }
        }
        return called;
    }

    private static long answer(SparseChecks x, String name, String told) throws ReflectiveOperationException {
        String[] words = told.isEmpty() ? new String[0] : told.split(", ");
        for (Method method : SparseChecks.class.getDeclaredMethods()) {
            if (method.getName().equals(name) && method.getParameterCount() == words.length) {
                Object[] arguments = new Object[words.length];
                for (int i = 0; i < words.length; i++) {
                    arguments[i] = argument(words[i], method.getParameterTypes()[i]);
                }
                return ((Number) method.invoke(x, arguments)).longValue();
            }
        }
        Due.holds("there is a call " + name + " of " + words.length, false);
        return 0;
    }

    private static Object argument(String word, Class<?> type) {
        if (type == boolean.class) {
            return Boolean.valueOf(word);
        }
        if (type == long.class) {
            return Long.valueOf(word.replace("L", ""));
        }
        return word.startsWith("'") ? Integer.valueOf(word.charAt(1)) : Integer.valueOf(word);
    }
}
