import java.io.IOException;
import java.lang.reflect.Constructor;
import java.lang.reflect.Field;
import java.lang.reflect.Method;
import java.lang.reflect.Modifier;
import java.nio.file.Files;
import java.nio.file.Path;
import java.util.ArrayList;
import java.util.List;
import java.util.Map;
import java.util.Set;
import java.util.TreeMap;
import java.util.TreeSet;
import java.util.regex.Matcher;
import java.util.regex.Pattern;

/**
 * The face of the document, and what can be seen of LANGUAGE.md, rule by rule, in the class and in its text.
 * Stricter than the rules where the class keeps to less than they allow. Runs in the project's folder.
 */
public final class LanguageTest {
    private static final String[] FACE = {
        "int set(int, int)", "int write()", "int dropLine(int)", "int dropPhrase(int)", "int stress(int, int, boolean)",
        "int beat(int, int, int)", "int sing(int)", "int play(int)", "int verse(int, int, int)", "int clear(boolean)",
        "int line(int, int)", "int phrase(int, int)", "int isStressed(int, int)", "int kindOf(int, int)", "int count(int)",
        "int at(boolean, int)", "int fit(int, int, int)", "int lies(int, int, int, int)", "int whole(int)", "int bestPhrase()",
        "int bestChange(int, int, int)", "int enoughBreath(int, int)", "int put(long)", "int wipe()", "int fault()",
        "int undo()", "int save(int)", "int restore(int)"};
    private static final String[] CONSTANTS = {"NO_SUCH", "BAD_VALUE", "BAD_TEXT", "TOO_MANY", "NOT_POSSIBLE", "NONE",
        "BREATH", "DRAWN", "LOST", "HURT"};
    private static final int[] VALUES = {-1, -2, -3, -4, -5, -6, 0, 1, 2, 3};
    private static final Set<Class<?>> STATIC_TYPES = Set.of(int.class, int[].class);
    private static final Set<String> CAPITALS = Set.of("BurdenTunes", "Book", "Pad", "Laying", "System", "Math");
    private static final Set<String> LIBRARY = Set.of("System.arraycopy", "Math.min", "Math.max");
    private static final String[] BANNED = {"throw", "throws", "try", "catch", "finally", "synchronized", "assert", "import",
        "package", "protected", "interface", "enum", "record \\w+", "abstract", "extends", "implements", "native", "volatile",
        "equals", "hashCode", "toString", "short", "byte", "float", "double", "var", "instanceof", "->", "::", "\"", "@", "\\[\\]\\["};
    private static final int DEEPEST = 8, LONGEST_METHOD = 60, MOST_CLASSES = 12, MOST_FIELDS = 20, MOST_PARAMETERS = 7;

    private static String code;
    private static final Map<String, String> METHODS = new TreeMap<>();

    public static void main(String[] args) throws Exception {
        String text = Files.readString(Path.of("src/main/java/BurdenTunes.java"));
        Due.holds("all signs are 1 to 127", text.chars().allMatch(sign -> sign > 0 && sign < 128));
        Due.holds("only lines of up to 120 signs", text.lines().allMatch(line -> line.length() <= 120));
        code = text.replaceAll("(?s)/\\*.*?\\*/", " ").replaceAll("//[^\n]*", " ");
        findMethods();
        constantsOfTheFace();
        rule1Face();
        rules2And11Members();
        rules3And4And13Words();
        rule5Statics();
        rule6BannedWords();
        rules8And11Calls();
        rule9Loops();
        rule12Objects();
        Due.end();
    }

    /** The body of each method by its name: it ends with the brace that is as far to the right as its head. */
    private static void findMethods() {
        Matcher heads = Pattern.compile("(?m)^( {4}| {8})(?:[a-z]+ )+([a-z]\\w*)\\([^)]*\\) \\{\n").matcher(code);
        while (heads.find()) {
            if (!heads.group().contains(" if ") && !heads.group().contains(" while ")) {
                int end = code.indexOf("\n" + heads.group(1) + "}\n", heads.end() - 1);
                String before = METHODS.put(heads.group(2), code.substring(heads.end(), end));
                Due.holds("only one method is called " + heads.group(2), before == null);
            }
        }
        int methods = BurdenTunes.class.getDeclaredMethods().length;
        for (Class<?> inner : BurdenTunes.class.getDeclaredClasses()) {
            methods += inner.getDeclaredMethods().length;
        }
        Due.is("the methods that this test finds", METHODS.size(), methods);
    }

    private static void constantsOfTheFace() throws IllegalAccessException, NoSuchFieldException {
        for (int i = 0; i < CONSTANTS.length; i++) {
            Field field = BurdenTunes.class.getField(CONSTANTS[i]);
            Due.is(CONSTANTS[i], field.getInt(null), VALUES[i]);
            Due.holds(CONSTANTS[i] + " is a constant", Modifier.isFinal(field.getModifiers()));
        }
        Due.is("the public fields", BurdenTunes.class.getFields().length, CONSTANTS.length);
    }

    private static void rule1Face() {
        Set<String> there = new TreeSet<>();
        for (Method method : BurdenTunes.class.getDeclaredMethods()) {
            if (!Modifier.isPrivate(method.getModifiers())) {
                there.add(method.toString().replace("public ", "").replace("BurdenTunes.", "").replace(",", ", "));
            }
        }
        Due.holds("the methods are " + there, there.equals(new TreeSet<>(Set.of(FACE))));
        Due.is("the class's modifiers", BurdenTunes.class.getModifiers(), Modifier.PUBLIC | Modifier.FINAL);
        for (Constructor<?> constructor : BurdenTunes.class.getDeclaredConstructors()) {
            Due.is("the modifiers of " + constructor, constructor.getModifiers(), Modifier.PUBLIC);
        }
        for (Field field : BurdenTunes.class.getDeclaredFields()) {
            Due.holds(field + " is private, or of the face",
                    Modifier.isPrivate(field.getModifiers()) || List.of(CONSTANTS).contains(field.getName()));
        }
        Due.is("the classes that are not inside another", found("(?m)^[a-z][a-z ]*class\\b").size(), 1);
    }

    private static void rules2And11Members() {
        checkMembers(BurdenTunes.class);
        Class<?>[] inside = BurdenTunes.class.getDeclaredClasses();
        for (Class<?> inner : inside) {
            Due.holds(inner + " is static", Modifier.isStatic(inner.getModifiers()));
            Due.holds(inner + " is not public", !Modifier.isPublic(inner.getModifiers()));
            Due.is("the classes inside " + inner, inner.getDeclaredClasses().length, 0);
            checkMembers(inner);
        }
        Due.is("the classes in the text", found("\\bclass\\b").size(), inside.length + 1);
        Due.holds("there are few classes", inside.length < MOST_CLASSES);
        Due.is("classes without a name", found("\\bnew \\w+\\([^)]*\\) \\{").size(), 0);
    }

    private static void checkMembers(Class<?> type) {
        Set<String> publicNames = new TreeSet<>();
        for (String method : FACE) {
            publicNames.add(method.replaceAll("int (\\w+)\\(.*", "$1"));
        }
        int fields = 0;
        for (Field field : type.getDeclaredFields()) {
            fields += Modifier.isStatic(field.getModifiers()) ? 0 : 1;
        }
        Due.holds(type + " has few fields", fields <= MOST_FIELDS);
        for (Method method : type.getDeclaredMethods()) {
            Due.holds(method + " takes few parameters", method.getParameterCount() <= MOST_PARAMETERS);
            if (!Modifier.isPublic(method.getModifiers())) {
                Due.holds(method + " has a name of its own", !publicNames.contains(method.getName()));
            }
        }
    }

    /** Own classes, and two of the library with three functions: so there is no clock, file or random source either. */
    private static void rules3And4And13Words() {
        for (String word : found("\\b[A-Z]\\w*[a-z]\\w*")) {
            Due.holds(word + " is a class that may be used", CAPITALS.contains(word));
        }
        for (String call : found("\\b(System|Math)\\b(\\.\\w+)?")) {
            Due.holds(call + " may be called", LIBRARY.contains(call));
        }
    }

    private static void rule5Statics() {
        for (Class<?> type : allClasses()) {
            for (Field field : type.getDeclaredFields()) {
                if (Modifier.isStatic(field.getModifiers())) {
                    Due.holds(field + " is final", Modifier.isFinal(field.getModifiers()));
                    Due.holds(field + " is a number or a row of numbers", STATIC_TYPES.contains(field.getType()));
                    if (field.getType().isArray()) {
                        staysAsItIs(field.getName());
                    }
                }
            }
        }
        Due.is("static blocks", found("\\bstatic \\{").size(), 0);
    }

    /** A row is written out, and read place by place, or copied from. */
    private static void staysAsItIs(String row) {
        Due.is(row + " is written out", found("final int\\[\\] " + row + " = \\{[-\\d, ]+\\};").size(), 1);
        for (String use : found("[^\n]*\\b" + row + "\\b[^\n]*")) {
            boolean isRead = use.matches(".*\\b" + row + "\\[\\w+\\]( \\|\\||\\) \\{).*") || use.contains("arraycopy(" + row + ", ");
            Due.holds(row + " is read, not changed:" + use, isRead || use.contains(" final int[] " + row));
        }
    }

    private static void rule6BannedWords() {
        for (String word : BANNED) {
            String edge = Character.isLetter(word.charAt(0)) ? "\\b" : "";
            Due.is("uses of " + word, found(edge + word + edge).size(), 0);
        }
    }

    private static void rules8And11Calls() {
        for (String name : METHODS.keySet()) {
            Due.holds(name + " is short", METHODS.get(name).lines().count() <= LONGEST_METHOD);
            Due.holds(name + " goes no deeper than " + DEEPEST, depth(name, 1) <= DEEPEST);
        }
    }

    /** How many calls stand open at once; a method that comes back to itself goes too deep. */
    private static int depth(String name, int level) {
        int deepest = level;
        Matcher calls = Pattern.compile("\\b(\\w+)\\(").matcher(METHODS.get(name));
        while (calls.find() && level <= DEEPEST) {
            if (METHODS.containsKey(calls.group(1))) {
                deepest = Math.max(deepest, depth(calls.group(1), level + 1));
            }
        }
        return deepest;
    }

    /** Each loop has its bound in its head: a counter that goes to a bound by one, or a counter against a bound. */
    private static void rule9Loops() {
        String counted = "for \\(int (\\w+) = [^;]+; \\1 (<|<=|>=) [\\w.()\\[\\]]+; \\1(\\+\\+|--)\\) \\{";
        for (String head : found("\\bfor \\([^\n]*")) {
            Due.holds("ends by its head: " + head, head.matches(counted));
        }
        for (String head : found("\\bwhile \\([^\n]*")) {
            Due.holds("ends by its head: " + head, head.matches(".*\\b(beat < beats|signs < 8)\\b.*"));
        }
        Due.is("loops of another kind", found("\\bdo\\b").size(), 0);
    }

    /** Stricter than the rule: calls make nothing, for what there is, the constructors have made. */
    private static void rule12Objects() {
        for (String line : found("[^\n]*\\bnew\\b[^\n]*")) {
            Due.holds("made by a constructor:" + line, line.contains(" final ") || line.matches("\\s+(history|slots)\\[i\\] = .*"));
        }
        for (String body : METHODS.values()) {
            Due.holds("a method makes nothing:" + body, !Pattern.compile("\\bnew\\b").matcher(body).find());
        }
    }

    private static List<Class<?>> allClasses() {
        List<Class<?>> classes = new ArrayList<>(List.of(BurdenTunes.class.getDeclaredClasses()));
        classes.add(BurdenTunes.class);
        return classes;
    }

    private static List<String> found(String pattern) {
        List<String> found = new ArrayList<>();
        Matcher matcher = Pattern.compile(pattern).matcher(code);
        while (matcher.find()) {
            found.add(matcher.group());
        }
        return found;
    }
}
