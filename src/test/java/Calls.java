import java.lang.reflect.InvocationTargetException;
import java.lang.reflect.Method;
import java.util.HashMap;
import java.util.Map;

/** Calls of the face by their names, so that one can be told, and done again on another object. */
final class Calls {
    private static final Map<String, Method> FACE = new HashMap<>();

    static {
        for (Method method : PictureBlock.class.getDeclaredMethods()) {
            FACE.put(method.getName(), method);
        }
    }

    private Calls() {
    }

    /** What a call answers; one of which the machine throws is no answer, and ends the tests. */
    static long answer(PictureBlock x, String name, long... with) {
        Method method = FACE.get(name);
        Class<?>[] types = method.getParameterTypes();
        if (types.length != with.length) {
            throw new IllegalArgumentException(text(name, with));
        }
        Object[] given = new Object[with.length];
        for (int i = 0; i < with.length; i++) {
            if (types[i] == long.class) {
                given[i] = with[i];
            } else {
                given[i] = Math.toIntExact(with[i]);
            }
        }
        try {
            return ((Number) method.invoke(x, given)).longValue();
        } catch (InvocationTargetException | IllegalAccessException thrown) {
            throw new IllegalStateException(text(name, with), thrown);
        }
    }

    static String text(String name, long... with) {
        StringBuilder text = new StringBuilder(name).append('(');
        for (int i = 0; i < with.length; i++) {
            text.append(i == 0 ? "" : ", ").append(with[i]);
        }
        return text.append(')').toString();
    }
}
