import java.lang.reflect.InvocationTargetException;
import java.lang.reflect.Method;
import java.util.HashMap;
import java.util.Map;

/** A call by its name, so that the very same call can be made of the program and of PlainHerd. */
final class NamedCall {
    private static final Map<Class<?>, Map<String, Method>> METHODS = new HashMap<>();

    private final String name;
    private final long[] arguments;

    NamedCall(String name, long... arguments) {
        this.name = name;
        this.arguments = arguments;
    }

    /** The answer as a text; "throws." and the exception's name when the call throws. */
    String answerOf(Object book) {
        Method method = METHODS.computeIfAbsent(book.getClass(), NamedCall::methodsOf).get(name);
        try {
            return String.valueOf(method.invoke(book, fitted(method.getParameterTypes())));
        } catch (InvocationTargetException e) {
            return "throws." + e.getCause().getClass().getSimpleName();
        } catch (IllegalAccessException e) {
            throw new AssertionError(e);
        }
    }

    @Override
    public String toString() {
        StringBuilder text = new StringBuilder(name).append('(');
        for (int i = 0; i < arguments.length; i++) {
            text.append(i == 0 ? "" : ", ").append(arguments[i]);
        }
        return text.append(')').toString();
    }

    private static Map<String, Method> methodsOf(Class<?> kind) {
        Map<String, Method> byName = new HashMap<>();
        for (Method method : kind.getDeclaredMethods()) {
            byName.put(method.getName(), method);
        }
        return byName;
    }

    private Object[] fitted(Class<?>[] types) {
        Object[] fitted = new Object[types.length];
        for (int i = 0; i < types.length; i++) {
            fitted[i] = types[i] == int.class ? (Object) Math.toIntExact(arguments[i]) : (Object) arguments[i];
        }
        return fitted;
    }
}
