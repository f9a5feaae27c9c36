import java.lang.reflect.InvocationTargetException;
import java.lang.reflect.Method;
import java.lang.reflect.Modifier;
import java.util.Map;
import java.util.TreeMap;

/** A call that is told as a text, such as "trust(0, 1, true)", and is answered as a text. */
final class Call {
    private static final Map<String, Method> FACE = face();

    final String text;
    final String name;
    private final Method method;
    private final Object[] arguments;

    Call(String text) {
        this.text = text;
        name = text.substring(0, text.indexOf('('));
        method = FACE.get(name);
        if (method == null) {
            throw new IllegalStateException("the face has no call " + text);
        }
        String inner = text.substring(name.length() + 1, text.lastIndexOf(')'));
        String[] words = inner.isEmpty() ? new String[0] : inner.split(", ");
        Class<?>[] types = method.getParameterTypes();
        if (words.length != types.length) {
            throw new IllegalStateException("too few or too many arguments: " + text);
        }
        arguments = new Object[types.length];
        for (int i = 0; i < types.length; i++) {
            arguments[i] = argument(types[i], words[i]);
        }
    }

    private static Map<String, Method> face() {
        Map<String, Method> face = new TreeMap<>();
        for (Method method : Keyceremony.class.getDeclaredMethods()) {
            if (Modifier.isPublic(method.getModifiers())) {
                face.put(method.getName(), method);
            }
        }
        return face;
    }

    /** A character is told by itself, or by # and its number. */
    private static Object argument(Class<?> type, String word) {
        if (type == boolean.class) {
            return Boolean.valueOf(word);
        }
        if (type == char.class) {
            return word.length() == 1 ? word.charAt(0) : (char) Integer.parseInt(word.substring(1));
        }
        return Integer.valueOf(word);
    }

    /** Does the call on a house: what it answers, or "throws" and the name of the exception. */
    String on(Keyceremony house) {
        try {
            return String.valueOf(method.invoke(house, arguments));
        } catch (InvocationTargetException e) {
            return "throws " + e.getCause().getClass().getSimpleName();
        } catch (IllegalAccessException e) {
            throw new IllegalStateException(e);
        }
    }
}
