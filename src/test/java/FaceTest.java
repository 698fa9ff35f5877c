import java.io.IOException;
import java.lang.reflect.Constructor;
import java.lang.reflect.Member;
import java.lang.reflect.Modifier;
import java.nio.file.Files;
import java.nio.file.Path;
import java.util.ArrayList;
import java.util.List;
import java.util.regex.Matcher;
import java.util.regex.Pattern;

/** The class bears the document's public face, word for word with what its calls throw, and nothing more. */
public final class FaceTest {
    private static final Path DOCUMENT = Path.of("../shared/DOC.md");
    private static final Path SOURCE = Path.of("src/main/java/MarketSquare.java");
    /** The class, its constant, its constructor, and a method for each other promise. */
    private static final int LINES = 33;
    private static final Pattern METHOD = Pattern.compile("public \\w+ (\\w+)\\(.*");

    public static void main(String[] args) throws IOException {
        Tally tally = new Tally();
        String source = Files.readString(SOURCE).replaceAll("\\s+", " ");
        List<String> face = linesOfFace();
        tally.check("lines of the document's face", "" + face.size(), "" + LINES);
        for (String line : face) {
            tally.check(line, "" + (source.contains(line + ";") || source.contains(line + " {")), "true");
        }
        List<String> due = methodsOf(face);
        Class<?> type = MarketSquare.class;
        tally.check("methods", namesOf(type.getDeclaredMethods(), false).toString(), due.toString());
        tally.check("fields", namesOf(type.getDeclaredFields(), false).toString(), "[NONE]");
        tally.check("constructors", constructorsOf(type).toString(), "[public MarketSquare()]");
        tally.check("NONE", "" + MarketSquare.NONE, "-1");
        List<String> hidden = namesOf(type.getDeclaredMethods(), true);
        hidden.retainAll(due);
        tally.check("private methods with a public one's name", hidden.toString(), "[]");
        tally.close("FaceTest");
    }

    /** Without what ends them: ";", or " {" behind the class. */
    private static List<String> linesOfFace() throws IOException {
        String text = Files.readString(DOCUMENT);
        List<String> found = new ArrayList<>();
        for (String line : text.substring(text.indexOf("```java"), text.indexOf("## Terms")).split("\n")) {
            if (line.trim().startsWith("public ")) {
                found.add(line.trim().replaceFirst("( \\{|;)$", ""));
            }
        }
        return found;
    }

    private static List<String> methodsOf(List<String> face) {
        List<String> found = new ArrayList<>();
        for (String line : face) {
            Matcher method = METHOD.matcher(line);
            if (method.matches()) {
                found.add(method.group(1));
            }
        }
        found.sort(null);
        return found;
    }

    private static List<String> namesOf(Member[] members, boolean isPrivate) {
        List<String> found = new ArrayList<>();
        for (Member member : members) {
            if (Modifier.isPrivate(member.getModifiers()) == isPrivate) {
                found.add(member.getName());
            }
        }
        found.sort(null);
        return found;
    }

    private static List<String> constructorsOf(Class<?> type) {
        List<String> found = new ArrayList<>();
        for (Constructor<?> constructor : type.getDeclaredConstructors()) {
            found.add(constructor.toString());
        }
        return found;
    }
}
