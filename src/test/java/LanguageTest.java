import java.io.IOException;
import java.lang.reflect.Constructor;
import java.lang.reflect.Field;
import java.lang.reflect.Method;
import java.lang.reflect.Modifier;
import java.nio.file.Files;
import java.nio.file.Path;
import java.util.Set;
import java.util.TreeSet;
import java.util.regex.Matcher;
import java.util.regex.Pattern;

/** The face of the document, and what can be seen of LANGUAGE.md in the class and in its text. Runs in the project's folder. */
public final class LanguageTest {
    private static final String[] FACE = {
        "int set(int, int)", "int write()", "int dropLine(int)", "int dropPhrase(int)", "int stress(int, int, boolean)",
        "int beat(int, int, int)", "int sing(int)", "int play(int)", "int verse(int, int, int)", "int clear(boolean)",
        "int line(int, int)", "int phrase(int, int)", "int isStressed(int, int)", "int kindOf(int, int)", "int count(int)",
        "int at(boolean, int)", "int fit(int, int, int)", "int lies(int, int, int, int)", "int whole(int)", "int bestPhrase()",
        "int bestChange(int, int, int)", "int enoughBreath(int, int)", "int put(long)", "int wipe()", "int fault()",
        "int undo()", "int save(int)", "int restore(int)"};
    private static final String[] CONSTANTS = {"NO_SUCH", "BAD_VALUE", "BAD_TEXT", "TOO_MANY", "NOT_POSSIBLE", "NONE",
        "BREATH", "DRAWN", "LOST", "HURT"};
    private static final int[] VALUES = {-1, -2, -3, -4, -5, -6, 0, 1, 2, 3};
    private static final String[] BANNED = {"throw", "throws", "try", "catch", "finally", "synchronized", "assert", "import",
        "package", "protected", "Object", "System\\.(?!arraycopy)", "->", "::", "float", "double"};

    public static void main(String[] args) throws Exception {
        theConstants();
        theMethods();
        theMembers();
        theText();
        Due.end();
    }

    private static void theConstants() throws IllegalAccessException, NoSuchFieldException {
        for (int i = 0; i < CONSTANTS.length; i++) {
            Field field = BurdenTunes.class.getField(CONSTANTS[i]);
            Due.is(CONSTANTS[i], field.getInt(null), VALUES[i]);
            Due.holds(CONSTANTS[i] + " is a constant", Modifier.isFinal(field.getModifiers()));
        }
        Due.is("the public fields", BurdenTunes.class.getFields().length, CONSTANTS.length);
    }

    private static void theMethods() {
        Set<String> due = new TreeSet<>(Set.of(FACE));
        Set<String> there = new TreeSet<>();
        for (Method method : BurdenTunes.class.getDeclaredMethods()) {
            if (!Modifier.isPrivate(method.getModifiers())) {
                String name = method.toString().replace("public ", "").replace("BurdenTunes.", "").replace(",", ", ");
                there.add(name);
            }
        }
        Due.holds("the methods are " + there, there.equals(due));
    }

    private static void theMembers() {
        Due.is("the class's modifiers", BurdenTunes.class.getModifiers(), Modifier.PUBLIC | Modifier.FINAL);
        Set<String> publicNames = new TreeSet<>();
        for (String method : FACE) {
            publicNames.add(method.replaceAll("int (\\w+)\\(.*", "$1"));
        }
        checkMembers(BurdenTunes.class, publicNames);
        for (Class<?> inner : BurdenTunes.class.getDeclaredClasses()) {
            Due.holds(inner + " is static", Modifier.isStatic(inner.getModifiers()));
            Due.holds(inner + " is not public", !Modifier.isPublic(inner.getModifiers()));
            checkMembers(inner, publicNames);
        }
        for (Constructor<?> constructor : BurdenTunes.class.getDeclaredConstructors()) {
            Due.is("the modifiers of " + constructor, constructor.getModifiers(), Modifier.PUBLIC);
        }
    }

    private static void checkMembers(Class<?> type, Set<String> publicNames) {
        int fields = 0;
        for (Field field : type.getDeclaredFields()) {
            int modifiers = field.getModifiers();
            if (Modifier.isStatic(modifiers)) {
                Due.holds(field + " is final", Modifier.isFinal(modifiers));
            } else {
                fields++;
            }
            if (type == BurdenTunes.class && !Modifier.isPublic(modifiers)) {
                Due.holds(field + " is private", Modifier.isPrivate(modifiers));
            }
        }
        Due.holds(type + " has at most 20 fields", fields <= 20);
        for (Method method : type.getDeclaredMethods()) {
            Due.holds(method + " takes at most 7 parameters", method.getParameterCount() <= 7);
            if (!Modifier.isPublic(method.getModifiers())) {
                Due.holds(method + " has a name of its own", !publicNames.contains(method.getName()));
            }
        }
    }

    private static void theText() throws IOException {
        String text = Files.readString(Path.of("src/main/java/BurdenTunes.java"));
        Due.holds("all signs are 1 to 127", text.chars().allMatch(sign -> sign > 0 && sign < 128));
        String code = text.replaceAll("(?s)/\\*.*?\\*/", " ").replaceAll("//[^\n]*", " ");
        for (String word : BANNED) {
            String edge = Character.isLetter(word.charAt(0)) ? "\\b" : "";
            Due.holds(word + " is not used", !Pattern.compile(edge + word + (word.endsWith(")") ? "" : edge)).matcher(code).find());
        }
        // Calls make nothing: what there is, the constructors have made.
        Matcher made = Pattern.compile("(?m)^(.*)\\bnew\\b(.*)$").matcher(code);
        while (made.find()) {
            String before = made.group(1);
            Due.holds("made by a constructor:" + made.group(), before.contains(" final ") || before.matches("\\s+(history|slots)\\[i\\] = "));
        }
        Due.holds("only lines of up to 120 signs", text.lines().allMatch(line -> line.length() <= 120));
    }
}
