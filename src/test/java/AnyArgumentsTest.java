import java.lang.reflect.InvocationTargetException;
import java.lang.reflect.Method;
import java.lang.reflect.Modifier;
import java.util.Arrays;
import java.util.Comparator;
import java.util.List;

/**
 * Calls with any arguments in any state, also behind the 512th call: each answers, or throws just one of the
 * exceptions that it declares, and never one of the machine's own.
 */
public final class AnyArgumentsTest {
    private static final int RUNS = 300;
    private static final int CALLS = 900;
    private static final int[] ENDS = {Integer.MIN_VALUE, Integer.MIN_VALUE + 1, -2, -1, 250, 251, 255, 256, 500, 501,
        1 << 16, 1 << 30, Integer.MAX_VALUE - 1, Integer.MAX_VALUE};
    private static final String KINDS = "gwudsc";

    private long state;

    private int draw(int many) {
        state = state * 6364136223846793005L + 1442695040888963407L;
        return (int) ((state >>> 33) % many);
    }

    private int number() {
        int chance = draw(20);
        return chance == 0 ? ENDS[draw(ENDS.length)] : chance < 3 ? draw(600) - 5 : chance < 8 ? draw(64) : draw(5);
    }

    private Object argument(Class<?> type) {
        if (type == boolean.class) {
            return draw(4) > 0;
        }
        if (type == char.class) {
            return draw(8) == 0 ? (char) draw(65536) : KINDS.charAt(draw(KINDS.length()));
        }
        return number();
    }

    private void call(Keyceremony house, Method method) throws IllegalAccessException {
        Object[] arguments = new Object[method.getParameterCount()];
        for (int i = 0; i < arguments.length; i++) {
            arguments[i] = argument(method.getParameterTypes()[i]);
        }
        call(house, method, arguments);
    }

    private static void call(Keyceremony house, Method method, Object... arguments) throws IllegalAccessException {
        try {
            method.invoke(house, arguments);
        } catch (InvocationTargetException e) {
            List<Class<?>> declared = Arrays.asList(method.getExceptionTypes());
            Class<?> thrown = e.getCause().getClass();
            Story.due(method.getName() + Arrays.toString(arguments) + " throws " + thrown.getSimpleName(),
                    declared.contains(thrown), true);
        }
    }

    /** Many more acts than a house is made for. */
    private void manyActs(List<Method> face) throws ReflectiveOperationException {
        Method zeroise = Keyceremony.class.getMethod("zeroise", int.class);
        Method acts = Keyceremony.class.getMethod("acts");
        Keyceremony house = new Keyceremony();
        house.addDevice();
        for (int calls = 0; calls < 2000; calls++) {
            call(house, zeroise, 0);
            call(house, acts);
        }
        for (int calls = 0; calls < 2000; calls++) {
            call(house, face.get(draw(face.size())));
        }
    }

    public static void main(String[] args) throws ReflectiveOperationException {
        List<Method> face = Arrays.stream(Keyceremony.class.getDeclaredMethods())
                .filter(method -> Modifier.isPublic(method.getModifiers()))
                .sorted(Comparator.comparing(Method::getName)).toList();
        AnyArgumentsTest test = new AnyArgumentsTest();
        for (int run = 0; run < RUNS; run++) {
            test.state = run;
            Keyceremony house = new Keyceremony();
            for (int calls = 0; calls < CALLS; calls++) {
                test.call(house, face.get(test.draw(face.size())));
            }
        }
        test.manyActs(face);
        Story.end("AnyArgumentsTest");
    }
}
