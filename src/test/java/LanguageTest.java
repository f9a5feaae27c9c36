import java.io.IOException;
import java.lang.reflect.Field;
import java.lang.reflect.Method;
import java.lang.reflect.Modifier;
import java.lang.reflect.TypeVariable;
import java.nio.file.Files;
import java.nio.file.Path;
import java.util.ArrayList;
import java.util.HashSet;
import java.util.List;
import java.util.Set;
import java.util.regex.Matcher;
import java.util.regex.Pattern;

/** The rules of LANGUAGE.md that can be seen without much thought: a guard, not a proof. */
public final class LanguageTest {
    private static final Path SOURCE = Path.of("src", "main", "java", "Keyceremony.java");
    /** The rules say "some" of these three, so the guard leaves room. */
    private static final int MOST_CLASSES = 14;
    private static final int MOST_FIELDS = 24;
    private static final int MOST_LINES = 70;
    private static final int MOST_PARAMETERS = 7;

    private static final Set<String> IMPORTS = Set.of("java.util.NoSuchElementException", "java.util.ArrayList",
            "java.util.List", "java.util.Arrays", "java.util.Iterator");
    private static final Pattern THROW = Pattern.compile("throw new (IllegalState|IllegalArgument|IndexOutOfBounds|Arithmetic"
            + "|UnsupportedOperation|NoSuchElement|Runtime)Exception\\(\\s*(\"[^\"]*\")?\\s*\\);");
    private static final Pattern FORBIDDEN = Pattern.compile("::|\\b(finally|synchronized|assert|getMessage|hashCode"
            + "|System\\.(?!arraycopy)|\\w+Exact|Thread|Random|Class|Object|HashMap|TreeMap|LinkedList|Optional)\\b");
    private static final Pattern LAMBDA = Pattern.compile("(?m)^(?!\\s*(case|default)\\b).*->");
    private static final Pattern TEXT = Pattern.compile("\"[^\"\n]*\"");
    private static final Pattern CAUGHT = Pattern.compile("catch \\((?!(IllegalState|IllegalArgument|IndexOutOfBounds"
            + "|Arithmetic|UnsupportedOperation|NoSuchElement|Runtime)Exception)");

    private static List<Class<?>> classes() {
        List<Class<?>> classes = new ArrayList<>(List.of(Keyceremony.class));
        for (int i = 0; i < classes.size(); i++) {
            classes.addAll(List.of(classes.get(i).getDeclaredClasses()));
        }
        return classes;
    }

    private static String withoutComments(String source) {
        return source.replaceAll("(?s)/\\*.*?\\*/", "").replaceAll("//.*", "");
    }

    private static void text(String source) {
        String bare = TEXT.matcher(source).replaceAll("\"\"");
        Story.due("a package line", source.startsWith("package") || source.contains("\npackage"), false);
        Matcher imported = Pattern.compile("import ([\\w.*]+|static .*);").matcher(source);
        while (imported.find()) {
            Story.due("4: import " + imported.group(1), IMPORTS.contains(imported.group(1)), true);
        }
        Matcher forbidden = FORBIDDEN.matcher(bare);
        while (forbidden.find()) {
            Story.due("forbidden: " + forbidden.group(), "there", "not there");
        }
        Story.due("2: a lambda", LAMBDA.matcher(bare).find(), false);
        Story.due("6: what is caught", CAUGHT.matcher(source).find(), false);
        Matcher thrown = Pattern.compile("\\bthrow ").matcher(source);
        while (thrown.find()) {
            boolean isKnown = THROW.matcher(source).region(thrown.start(), source.length()).lookingAt();
            Story.due("6: the throw at sign " + thrown.start(), isKnown, true);
        }
        Matcher text = TEXT.matcher(source);
        while (text.find()) {
            Story.due("4: the signs of " + text.group(), text.group().chars().allMatch(sign -> sign > 0 && sign < 128), true);
        }
    }

    /** A method begins on a line that is not deeper than a member of a class inside, and ends at the same depth. */
    private static void lengths(String source) {
        String[] lines = source.split("\n");
        for (int first = 0; first < lines.length; first++) {
            Matcher begin = Pattern.compile("( {4}| {8})(?! )[\\w\\[\\]<> ]+\\(.*").matcher(lines[first]);
            if (begin.matches() && !lines[first].endsWith(";") && !lines[first].endsWith("}")) {
                int last = first;
                while (last < lines.length - 1 && !lines[last].equals(begin.group(1) + "}")) {
                    last++;
                }
                Story.due("11: short enough: " + lines[first].strip(), last - first + 1 <= MOST_LINES, true);
            }
        }
    }

    private static void fields(Class<?> type, List<Class<?>> own) {
        int many = 0;
        for (Field field : type.getDeclaredFields()) {
            boolean isStatic = Modifier.isStatic(field.getModifiers());
            many += isStatic || field.isSynthetic() ? 0 : 1;
            Story.due("5: " + field + " is final, if it is static", !isStatic || Modifier.isFinal(field.getModifiers()), true);
            Class<?> held = field.getType();
            boolean isFlat = !held.isArray() || !held.getComponentType().isArray()
                    || held.getComponentType().getComponentType().isPrimitive();
            while (held.isArray()) {
                held = held.getComponentType();
            }
            boolean isKnown = held.isPrimitive() || held == String.class || held == StringBuilder.class
                    || List.class.isAssignableFrom(held) || own.contains(held)
                    || field.getGenericType() instanceof TypeVariable;
            Story.due("3: the type of " + field, isFlat && isKnown, true);
        }
        Story.due("11: the fields of " + type, many <= MOST_FIELDS, true);
    }

    private static void members(Class<?> type, Set<String> face) {
        for (Method method : type.getDeclaredMethods()) {
            Story.due("11: the parameters of " + method, method.getParameterCount() <= MOST_PARAMETERS, true);
            Story.due("1: " + method + " bears a public name", type != Keyceremony.class && face.contains(method.getName())
                    && Modifier.isPrivate(method.getModifiers()), false);
        }
        if (type != Keyceremony.class) {
            Story.due("1: " + type + " is open", Modifier.isPublic(type.getModifiers())
                    || Modifier.isProtected(type.getModifiers()), false);
        }
    }

    public static void main(String[] args) throws IOException {
        String source = Files.readString(SOURCE);
        text(withoutComments(source));
        lengths(source);
        List<Class<?>> classes = classes();
        Story.due("11: some twelve classes", classes.size() <= MOST_CLASSES, true);
        Set<String> face = new HashSet<>();
        for (Method method : Keyceremony.class.getDeclaredMethods()) {
            if (Modifier.isPublic(method.getModifiers())) {
                face.add(method.getName());
            }
        }
        for (Class<?> type : classes) {
            fields(type, classes);
            members(type, face);
        }
        Story.end("LanguageTest");
    }
}
