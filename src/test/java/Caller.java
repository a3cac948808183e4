import java.lang.reflect.InvocationTargetException;
import java.lang.reflect.Method;
import java.lang.reflect.Modifier;
import java.util.HashMap;
import java.util.Map;

/** Makes calls by their names on the program or on PlainModel, which bear the same names. */
final class Caller {
    private static final Map<Class<?>, Map<String, Method>> KNOWN = new HashMap<>();

    private final Object owner;
    private final Map<String, Method> methods;

    Caller(Object owner) {
        this.owner = owner;
        methods = KNOWN.computeIfAbsent(owner.getClass(), Caller::methodsOf);
    }

    private static Map<String, Method> methodsOf(Class<?> owner) {
        Map<String, Method> methods = new HashMap<>();
        for (Method method : owner.getDeclaredMethods()) {
            if (Modifier.isPublic(method.getModifiers())) {
                method.setAccessible(true);
                methods.put(method.getName(), method);
            }
        }
        return methods;
    }

    /** The answer of a call, or the name of the exception that it throws. */
    Object call(String name, Object... arguments) {
        try {
            return methods.get(name).invoke(owner, arguments);
        } catch (InvocationTargetException e) {
            return e.getCause().getClass().getName();
        } catch (IllegalAccessException e) {
            throw new IllegalStateException(e);
        }
    }
}
