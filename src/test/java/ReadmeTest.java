import java.io.IOException;
import java.lang.reflect.InvocationTargetException;
import java.lang.reflect.Method;
import java.nio.file.Files;
import java.nio.file.Path;
import java.util.Map;
import java.util.TreeMap;
import java.util.regex.Matcher;
import java.util.regex.Pattern;

/** The calls of README.md answer what stands behind them there. Runs in the project's folder. */
public final class ReadmeTest {
    private static final Pattern CALL = Pattern.compile("(?m)^book\\.(\\w+)\\(([^)]*)\\);\\s+// (-?\\d+)");
    private static final Map<String, Method> METHODS = new TreeMap<>();

    public static void main(String[] args) throws Exception {
        for (Method method : BurdenTunes.class.getDeclaredMethods()) {
            METHODS.put(method.getName(), method);
        }
        String text = Files.readString(Path.of("README.md"));
        theCalls(text);
        allAreNamed(text);
        Due.end();
    }

    private static void theCalls(String text) throws ReflectiveOperationException {
        BurdenTunes book = new BurdenTunes();
        Matcher calls = CALL.matcher(text);
        int found = 0;
        while (calls.find()) {
            Due.is(calls.group(), answer(book, calls.group(1), calls.group(2)), Integer.parseInt(calls.group(3)));
            found++;
        }
        Due.is("the calls that this test finds", found, text.lines().filter(line -> line.startsWith("book.")).count());
    }

    private static int answer(BurdenTunes book, String name, String given) throws IllegalAccessException,
            InvocationTargetException, NoSuchFieldException {
        Method method = METHODS.get(name);
        String[] words = given.isEmpty() ? new String[0] : given.split(", ");
        Object[] values = new Object[words.length];
        for (int i = 0; i < words.length; i++) {
            values[i] = value(words[i], method.getParameterTypes()[i]);
        }
        return (int) method.invoke(book, values);
    }

    private static Object value(String word, Class<?> type) throws IllegalAccessException, NoSuchFieldException {
        if (type == long.class) {
            return Long.decode(word.replace("L", ""));
        }
        if (type == boolean.class) {
            return Boolean.parseBoolean(word);
        }
        return word.startsWith("BurdenTunes.")
                ? BurdenTunes.class.getField(word.substring("BurdenTunes.".length())).getInt(null)
                : Integer.parseInt(word);
    }

    /** The table of calls, and the table of tests, leave none out. */
    private static void allAreNamed(String text) throws IOException {
        for (String name : METHODS.keySet()) {
            boolean isOfTheFace = java.lang.reflect.Modifier.isPublic(METHODS.get(name).getModifiers());
            Due.holds("README.md names " + name, !isOfTheFace || text.contains("`" + name + "`"));
        }
        try (var files = Files.list(Path.of("src/test/java"))) {
            files.map(file -> file.getFileName().toString().replace(".java", ""))
                    .forEach(name -> Due.holds("README.md names " + name, text.contains("`" + name + "`")));
        }
    }
}
