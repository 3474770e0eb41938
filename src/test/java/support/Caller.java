import java.lang.reflect.InvocationTargetException;
import java.lang.reflect.Method;
import java.lang.reflect.Modifier;
import java.util.HashMap;
import java.util.List;
import java.util.Map;

/** A hall of its own that is called by rows and answers by texts; it is used for 512 calls at most. */
final class Caller {
    static final int MOST_CALLS = 512;
    private static final Map<String, Method> FACE = face();

    private final PinHall hall = new PinHall();
    private int calls = 0;

    Caller(List<Row> ahead) {
        for (Row row : ahead) {
            answer(row);
        }
    }

    private static Map<String, Method> face() {
        Map<String, Method> all = new HashMap<>();
        for (Method m : PinHall.class.getDeclaredMethods()) {
            if (Modifier.isPublic(m.getModifiers())) {
                all.put(m.getName(), m);
            }
        }
        return all;
    }

    /** The answer, or "throws." and the exception's name. */
    String answer(Row row) {
        calls++;
        if (calls > MOST_CALLS) {
            throw new IllegalStateException("a test calls one hall more than 512 times, at " + row);
        }
        Method method = FACE.get(row.name());
        Class<?>[] types = method.getParameterTypes();
        if (types.length != row.arguments().length) {
            throw new IllegalArgumentException(row + " has the wrong number of arguments");
        }
        Object[] given = new Object[types.length];
        for (int i = 0; i < types.length; i++) {
            given[i] = valueOf(types[i], row.arguments()[i]);
        }
        try {
            return String.valueOf(method.invoke(hall, given));
        } catch (InvocationTargetException e) {
            return Row.THROWS + Checks.nameOf(e.getCause());
        } catch (IllegalAccessException e) {
            throw new IllegalStateException(e);
        }
    }

    private static Object valueOf(Class<?> type, String text) {
        if (type != boolean.class) {
            return Integer.valueOf(text);
        }
        if (!text.equals("true") && !text.equals("false")) {
            throw new IllegalArgumentException(text + " is neither true nor false");
        }
        return Boolean.valueOf(text);
    }
}
