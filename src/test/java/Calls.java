import java.lang.reflect.InvocationTargetException;
import java.lang.reflect.Method;
import java.lang.reflect.Modifier;
import java.util.HashMap;
import java.util.Map;

/** Calls a method by its name and gives the answer as a text: a number, true, false, nothing or throws.SomeException. */
final class Calls {
    private static final Map<String, Method> METHODS = new HashMap<>();

    private Calls() {
    }

    static String answer(Object target, String name, long... args) {
        Method method = find(target.getClass(), name);
        Class<?>[] types = method.getParameterTypes();
        if (types.length != args.length) {
            throw new Error(name + " takes " + types.length + " arguments, not " + args.length);
        }
        Object[] given = new Object[args.length];
        for (int i = 0; i < args.length; i++) {
            given[i] = types[i] == int.class ? (Object) Math.toIntExact(args[i]) : (Object) args[i];
        }
        try {
            Object got = method.invoke(target, given);
            return method.getReturnType() == void.class ? "nothing" : String.valueOf(got);
        } catch (InvocationTargetException e) {
            // The exact class: what the machine throws is often a class below the one that is due.
            return "throws." + e.getCause().getClass().getSimpleName();
        } catch (IllegalAccessException e) {
            throw new Error(e);
        }
    }

    static boolean answersNumber(String name) {
        return find(KeyStates.class, name).getReturnType() == int.class;
    }

    private static Method find(Class<?> type, String name) {
        return METHODS.computeIfAbsent(type.getName() + "." + name, whole -> search(type, name));
    }

    private static Method search(Class<?> type, String name) {
        for (Method method : type.getDeclaredMethods()) {
            if (method.getName().equals(name) && Modifier.isPublic(method.getModifiers())) {
                return method;
            }
        }
        throw new Error(type + " has no public method " + name);
    }
}
