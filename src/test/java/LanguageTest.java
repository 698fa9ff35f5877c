import java.io.IOException;
import java.lang.reflect.Field;
import java.lang.reflect.Method;
import java.lang.reflect.Modifier;
import java.nio.file.Files;
import java.nio.file.Path;
import java.util.ArrayList;
import java.util.List;
import java.util.Set;
import java.util.TreeSet;
import java.util.regex.Matcher;
import java.util.regex.Pattern;

/**
 * The class keeps to what ../shared/LANGUAGE.md asks, as far as its text and its members show that. Some checks are
 * closer than the rules: they allow what the class uses, and are to be widened when it uses more of what a rule allows.
 */
public final class LanguageTest {
    private static final Path SOURCE = Path.of("src/main/java/MarketSquare.java");
    private static final int MOST_PARAMETERS = 7;
    private static final int MOST_CLASSES = 12;
    private static final int MOST_FIELDS = 20;
    private static final int MOST_LINES = 60;
    /** Of rules 1, 2, 6, 10 and 13; of what rule 6 allows to be caught nothing is thrown inside the class. */
    private static final Pattern RULED_OUT = Pattern.compile("\\b(package|import|synchronized|assert|try|catch|finally|"
        + "float|double|instanceof|native|volatile|transient|strictfp|var|yield|Object|System|Thread|Random)\\b|->|::");
    /** Calls of rule 4's library that the class makes. */
    private static final Set<String> LIBRARY = Set.of("Integer.bitCount", "Math.max");
    private static final Pattern OF_LIBRARY = Pattern.compile("\\b[A-Z]\\w*[a-z]\\w*\\.\\w+");
    private static final Pattern THROW = Pattern.compile("\\bthrow\\b[^;]*;");
    private static final String THROWN = "throw new (IllegalState|IllegalArgument|IndexOutOfBounds|UnsupportedOperation)"
        + "Exception\\(\"[^\"]+\"\\);";
    private static final Pattern HEAD = Pattern.compile("( +)[^;=]*\\)( throws [\\w, ]+)? \\{");

    private final Tally tally = new Tally();

    public static void main(String[] args) throws IOException {
        LanguageTest test = new LanguageTest();
        test.checkText(Files.readString(SOURCE));
        test.checkClass(MarketSquare.class);
        for (Class<?> inside : MarketSquare.class.getDeclaredClasses()) {
            test.checkClass(inside);
            test.check(Modifier.isStatic(inside.getModifiers()) && !isOpen(inside.getModifiers()), "rule 1: " + inside);
        }
        test.check(MarketSquare.class.getDeclaredClasses().length < MOST_CLASSES, "rule 11: number of classes");
        test.tally.close("LanguageTest");
    }

    private void check(boolean holds, String where) {
        tally.check(where, holds ? "held" : "broken", "held");
    }

    private static boolean isOpen(int modifiers) {
        return Modifier.isPublic(modifiers) || Modifier.isProtected(modifiers);
    }

    // ---- the members ----

    private void checkClass(Class<?> type) {
        int fields = 0;
        for (Field field : type.getDeclaredFields()) {
            if (Modifier.isStatic(field.getModifiers())) {
                check(isConstant(field), "rule 5: " + field);
            } else {
                fields++;
                check(isOfRule3(field.getType()), "rule 3: " + field);
            }
        }
        check(fields <= MOST_FIELDS, "rule 11: fields of " + type);
        for (Method method : type.getDeclaredMethods()) {
            check(method.getParameterCount() <= MOST_PARAMETERS, "rule 11: parameters of " + method);
        }
    }

    private static boolean isConstant(Field field) {
        Class<?> type = field.getType();
        return Modifier.isFinal(field.getModifiers()) && (type == int.class || type == long.class);
    }

    private static boolean isOfRule3(Class<?> type) {
        Class<?> one = type.isArray() ? type.getComponentType() : type;
        return one == int.class || one == long.class || one == boolean.class
            || one.getDeclaringClass() == MarketSquare.class;
    }

    // ---- the text ----

    private void checkText(String text) {
        check(text.matches("[\\x0A\\x20-\\x7E]*"), "rule 4: signs");
        String code = text.replaceAll("(?s)/\\*.*?\\*/", "").replaceAll("//[^\n]*", "");
        for (String thrown : found(THROW, code)) {
            check(thrown.matches(THROWN), "rule 6: " + thrown);
        }
        String bare = code.replaceAll("\"[^\"\n]*\"", "\"\"");
        check(found(RULED_OUT, bare).isEmpty(), "rules 1, 2, 6, 10, 13: " + found(RULED_OUT, bare));
        Set<String> others = new TreeSet<>(found(OF_LIBRARY, bare));
        others.removeAll(LIBRARY);
        check(others.isEmpty(), "rule 4: " + others);
        checkLengths(text.replaceAll("\n +throws", " throws").split("\n"));
    }

    private static List<String> found(Pattern pattern, String text) {
        List<String> found = new ArrayList<>();
        for (Matcher matcher = pattern.matcher(text); matcher.find();) {
            found.add(matcher.group());
        }
        return found;
    }

    /** Of what begins with ") {" and ends with a bracket just as far in: methods, and what stands in them. */
    private void checkLengths(String[] lines) {
        int heads = 0;
        for (int i = 0; i < lines.length; i++) {
            Matcher head = HEAD.matcher(lines[i]);
            if (head.matches()) {
                heads++;
                int end = i;
                while (end < lines.length && !lines[end].startsWith(head.group(1) + "}")) {
                    end++;
                }
                check(end < lines.length && end - i < MOST_LINES, "rule 11: length of " + lines[i].trim());
            }
        }
        check(heads > 0, "rule 11: no methods found");
    }
}
