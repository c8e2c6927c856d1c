import java.lang.reflect.InvocationTargetException;
import java.lang.reflect.Method;
import java.lang.reflect.Modifier;
import java.util.HashMap;
import java.util.Map;

/** Calls of the face by name, the same way on OrderedVersions and on PlainModel. */
final class Calls {
    private static final Map<String, Method> METHODS = methodsByName(OrderedVersions.class, PlainModel.class);

    private Calls() {
    }

    static boolean hasName(String name) {
        return METHODS.containsKey(key(OrderedVersions.class, name));
    }

    static Class<?>[] parameters(String name) {
        return METHODS.get(key(OrderedVersions.class, name)).getParameterTypes();
    }

    /** What a call answers or throws; a flag is given as 0 or 1. */
    static Object outcome(Object target, String name, int... arguments) {
        return Checks.outcome(() -> ask(target, name, arguments));
    }

    private static Object ask(Object target, String name, int[] arguments) {
        Method method = METHODS.get(key(target.getClass(), name));
        Class<?>[] types = method.getParameterTypes();
        Object[] boxed = new Object[arguments.length];
        for (int i = 0; i < arguments.length; i++) {
            boxed[i] = types[i] == boolean.class ? (Object) (arguments[i] == 1) : (Object) arguments[i];
        }
        try {
            return method.invoke(target, boxed);
        } catch (InvocationTargetException e) {
            throw (RuntimeException) e.getCause();
        } catch (IllegalAccessException e) {
            throw new AssertionError(e);
        }
    }

    private static Map<String, Method> methodsByName(Class<?>... owners) {
        Map<String, Method> found = new HashMap<>();
        for (Class<?> owner : owners) {
            for (Method method : owner.getDeclaredMethods()) {
                if (!Modifier.isPrivate(method.getModifiers())) {
                    found.put(key(owner, method.getName()), method);
                }
            }
        }
        return found;
    }

    private static String key(Class<?> owner, String name) {
        return owner.getSimpleName() + "." + name;
    }
}
