import java.lang.reflect.InvocationTargetException;
import java.lang.reflect.Method;

/** Calls a square by a method's name, and tells the answer as a text. */
final class Calls {
    private Calls() {
    }

    /** What a void call answers. */
    static final String OK = "ok";

    /** The answer ("7", "true", "ok"), or the simple name of what the call threw. */
    static String answer(Object square, String name, Object[] args) {
        Method method = methodNamed(square, name);
        try {
            Object answer = method.invoke(square, fitted(method, args));
            return method.getReturnType() == void.class ? OK : String.valueOf(answer);
        } catch (InvocationTargetException e) {
            return e.getCause().getClass().getSimpleName();
        } catch (IllegalAccessException e) {
            throw new IllegalStateException(name + " can't be called", e);
        }
    }

    private static Method methodNamed(Object square, String name) {
        for (Method method : square.getClass().getDeclaredMethods()) {
            if (method.getName().equals(name) && (method.getModifiers() & java.lang.reflect.Modifier.PUBLIC) != 0) {
                method.setAccessible(true);
                return method;
            }
        }
        throw new IllegalStateException("there is no call " + name);
    }

    /** Numbers come as longs; the face wants some of them as ints. */
    private static Object[] fitted(Method method, Object[] args) {
        Class<?>[] types = method.getParameterTypes();
        if (types.length != args.length) {
            throw new IllegalStateException(method.getName() + " takes " + types.length + " arguments");
        }
        Object[] fitted = new Object[args.length];
        for (int i = 0; i < args.length; i++) {
            fitted[i] = types[i] == int.class ? (Object) Math.toIntExact((Long) args[i]) : args[i];
        }
        return fitted;
    }

    static String text(String name, Object[] args) {
        StringBuilder text = new StringBuilder(name).append('(');
        for (int i = 0; i < args.length; i++) {
            text.append(i == 0 ? "" : ", ").append(args[i]);
        }
        return text.append(')').toString();
    }
}
