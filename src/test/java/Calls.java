import java.lang.reflect.InvocationTargetException;
import java.lang.reflect.Method;
import java.lang.reflect.Modifier;
import java.util.Arrays;
import java.util.HashMap;
import java.util.Map;

/** Calls by their names, made of TabTrails or of the model alike. */
final class Calls {
    static final String[] NAMES = {
        "row", "set", "copy", "drop", "feed", "web", "fault", "follow", "back", "forward", "select", "open", "close",
        "again", "undo", "tab", "trail", "page", "walk", "far", "round", "to", "ways", "share", "fits", "chance",
        "drawn", "image", "restore", "kind", "as", "ask", "trace", "count", "status"};

    private final Map<String, Method> methods = new HashMap<>();

    Calls(Class<?> type) {
        for (Method method : type.getDeclaredMethods()) {
            boolean hidden = Modifier.isPrivate(method.getModifiers()) || Modifier.isStatic(method.getModifiers());
            if (!hidden && Arrays.asList(NAMES).contains(method.getName())) {
                methods.put(method.getName(), method);
            }
        }
        if (methods.size() != NAMES.length) {
            throw new IllegalStateException(type + " has not every call");
        }
    }

    int takes(String name) {
        if (!methods.containsKey(name)) {
            throw new IllegalStateException("no such call: " + name);
        }
        return methods.get(name).getParameterCount();
    }

    /** The answer by as many of the values as the call takes; what it throws is thrown. */
    int make(Object x, String name, int[] values) {
        Method method = methods.get(name);
        Object[] arguments = Arrays.stream(values).limit(method.getParameterCount()).boxed().toArray();
        try {
            return (Integer) method.invoke(x, arguments);
        } catch (InvocationTargetException thrown) {
            throw new IllegalStateException(name + Arrays.toString(arguments), thrown.getCause());
        } catch (IllegalAccessException closed) {
            throw new IllegalStateException(closed);
        }
    }
}
