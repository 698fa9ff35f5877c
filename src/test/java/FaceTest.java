import java.lang.reflect.Constructor;
import java.lang.reflect.Field;
import java.lang.reflect.Method;
import java.lang.reflect.Modifier;
import java.util.Arrays;
import java.util.Set;
import java.util.TreeSet;

/** The class bears the members of the document's public face, and no other that is not private. */
public final class FaceTest {
    private static final String[] METHODS = {
        "void row(int,int)", "boolean mark(int,int,int,boolean)", "int trade(int,int,boolean)",
        "boolean pair(int,int,boolean)", "int trader(int,int,int)", "void pitch(int,int,int)", "void months(int,int)",
        "int wish(int,int,int)", "void wishes(int,boolean)", "void want(int,boolean)", "int day(int)",
        "boolean there(int)", "boolean word(int)", "int bell()", "int why(int,int,int)", "int good(int)",
        "int next()", "boolean full()", "int waiting(int)", "boolean move(int,int,int)", "boolean change(int,int)",
        "int leave(int)", "void hour(int)", "int close()", "long pay(int,long)", "int look(int,int)",
        "long owed(int)", "int stall(int,int)", "int square(int,int)", "long count(int)"};

    public static void main(String[] args) {
        Tally tally = new Tally();
        Class<?> face = MarketSquare.class;
        tally.check("methods", methodsOf(face).toString(), new TreeSet<>(Arrays.asList(METHODS)).toString());
        tally.check("fields", fieldsOf(face).toString(), "[public static final int NONE]");
        tally.check("constructors", constructorsOf(face).toString(), "[public MarketSquare()]");
        tally.check("the class", Modifier.toString(face.getModifiers()), "public final");
        tally.check("NONE", String.valueOf(MarketSquare.NONE), "-1");
        tally.check("static fields that are not final", staticStateOf(face).toString(), "[]");
        tally.check("private methods with a public one's name", sharedNamesOf(face).toString(), "[]");
        tally.close("FaceTest");
    }

    private static Set<String> staticStateOf(Class<?> face) {
        Set<String> found = new TreeSet<>();
        for (Field field : face.getDeclaredFields()) {
            if (Modifier.isStatic(field.getModifiers()) && !Modifier.isFinal(field.getModifiers())) {
                found.add(field.getName());
            }
        }
        return found;
    }

    private static Set<String> sharedNamesOf(Class<?> face) {
        Set<String> open = new TreeSet<>();
        Set<String> hidden = new TreeSet<>();
        for (Method method : face.getDeclaredMethods()) {
            (Modifier.isPrivate(method.getModifiers()) ? hidden : open).add(method.getName());
        }
        hidden.retainAll(open);
        return hidden;
    }

    private static Set<String> methodsOf(Class<?> face) {
        Set<String> found = new TreeSet<>();
        for (Method method : face.getDeclaredMethods()) {
            if (!Modifier.isPrivate(method.getModifiers())) {
                found.add(signatureOf(method));
            }
        }
        return found;
    }

    private static String signatureOf(Method method) {
        StringBuilder text = new StringBuilder();
        for (Class<?> type : method.getParameterTypes()) {
            text.append(text.length() == 0 ? "" : ",").append(type.getName());
        }
        return method.getReturnType().getName() + " " + method.getName() + "(" + text + ")";
    }

    private static Set<String> fieldsOf(Class<?> face) {
        Set<String> found = new TreeSet<>();
        for (Field field : face.getDeclaredFields()) {
            if (!Modifier.isPrivate(field.getModifiers())) {
                found.add(Modifier.toString(field.getModifiers()) + " " + field.getType() + " " + field.getName());
            }
        }
        return found;
    }

    private static Set<String> constructorsOf(Class<?> face) {
        Set<String> found = new TreeSet<>();
        for (Constructor<?> constructor : face.getDeclaredConstructors()) {
            found.add(constructor.toString());
        }
        return found;
    }
}
