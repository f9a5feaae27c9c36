import java.lang.reflect.Constructor;
import java.lang.reflect.Field;
import java.lang.reflect.Method;
import java.lang.reflect.Modifier;
import java.util.Arrays;
import java.util.Set;
import java.util.TreeSet;

/** The public face: just the constructor and the methods of the document, with what they throw. */
public final class FaceTest {
    private static final String INDEX = "IndexOutOfBoundsException";
    private static final String ARGUMENT = "IllegalArgumentException";
    private static final String STATE = "IllegalStateException";
    private static final String UNSUPPORTED = "UnsupportedOperationException";
    private static final String NONE_SUCH = "NoSuchElementException";

    private static final String[] FACE = {
        face("int addDevice()", STATE),
        face("boolean trust(int,int,boolean)", INDEX, ARGUMENT),
        face("int addPerson(int)", ARGUMENT, STATE),
        face("int logIn(int,int)", INDEX),
        face("int setRule(char,int,int)", ARGUMENT),
        face("boolean isPermitted(char,int)", INDEX, ARGUMENT),
        face("int generate(int,int,int,int,int)", INDEX, ARGUMENT, STATE),
        face("int derive(int,int,int,int)", INDEX, ARGUMENT, UNSUPPORTED, STATE),
        face("int rotate(int,int)", INDEX, UNSUPPORTED, STATE),
        face("int tighten(int,int)", INDEX, ARGUMENT),
        face("int flags(int)", INDEX),
        face("char stage(int)", INDEX),
        face("boolean has(int,int)", INDEX),
        face("int destroy(int,int)", INDEX, UNSUPPORTED, STATE),
        face("int zeroise(int)", INDEX, STATE),
        face("int follow(int,int)", INDEX, UNSUPPORTED, STATE),
        face("int wrap(int,int,int)", INDEX, ARGUMENT, UNSUPPORTED, STATE),
        face("int unwrap(int,int)", INDEX, UNSUPPORTED, STATE),
        face("boolean canReach(int,int)", INDEX),
        face("int share(int,int,int,int)", INDEX, ARGUMENT, UNSUPPORTED, STATE),
        face("int card(int,int)", INDEX, NONE_SUCH),
        face("int falsify(int,int,int)", INDEX, ARGUMENT, NONE_SUCH),
        face("boolean recover(int,int)", INDEX, UNSUPPORTED, STATE),
        face("int encipher(int,int,int)", INDEX, ARGUMENT, UNSUPPORTED, STATE),
        face("int cipher(int)", INDEX),
        face("int read(int,int)", INDEX, UNSUPPORTED),
        face("int renew(int,int)", INDEX, UNSUPPORTED),
        face("int advance(int)", ARGUMENT, STATE),
        face("int acts()"),
        face("char actAt(int)", NONE_SUCH),
        face("int personsAt(int)", NONE_SUCH),
        face("long head()"),
        face("float activeShare()", "ArithmeticException"),
        face("double meanCopies()", "ArithmeticException"),
        face("boolean isSound()"),
    };

    private static String face(String method, String... thrown) {
        return method + " throws " + Arrays.toString(thrown);
    }

    private static String told(Method method) {
        StringBuilder text = new StringBuilder(method.getReturnType().getSimpleName());
        text.append(' ').append(method.getName()).append('(');
        for (Class<?> type : method.getParameterTypes()) {
            text.append(text.charAt(text.length() - 1) == '(' ? "" : ",").append(type.getSimpleName());
        }
        String[] thrown = Arrays.stream(method.getExceptionTypes()).map(Class::getSimpleName).toArray(String[]::new);
        return text.append(") throws ").append(Arrays.toString(thrown)).toString();
    }

    public static void main(String[] args) {
        Story.due("public final", Modifier.toString(Keyceremony.class.getModifiers()), "public final");
        Set<String> open = new TreeSet<>();
        Set<String> openNames = new TreeSet<>();
        for (Method method : Keyceremony.class.getDeclaredMethods()) {
            if (!Modifier.isPrivate(method.getModifiers()) && !method.isSynthetic()) {
                open.add(told(method));
                openNames.add(method.getName());
            }
        }
        Story.due("the methods", open.toString(), new TreeSet<>(Arrays.asList(FACE)).toString());
        for (Method method : Keyceremony.class.getDeclaredMethods()) {
            boolean isHidden = Modifier.isPrivate(method.getModifiers()) && !method.isSynthetic();
            Story.due(method + " bears a public name", isHidden && openNames.contains(method.getName()), false);
        }
        Constructor<?>[] constructors = Keyceremony.class.getDeclaredConstructors();
        Story.due("constructors", constructors.length, 1);
        Story.due("the constructor", Modifier.toString(constructors[0].getModifiers()), "public");
        Story.due("its parameters", constructors[0].getParameterCount(), 0);
        for (Field field : Keyceremony.class.getDeclaredFields()) {
            Story.due(field + " is private", Modifier.isPrivate(field.getModifiers()) || field.isSynthetic(), true);
        }
        Story.end("FaceTest");
    }
}
