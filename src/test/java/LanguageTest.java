import java.lang.reflect.Executable;
import java.lang.reflect.Field;
import java.lang.reflect.Modifier;
import java.nio.file.Files;
import java.nio.file.Path;
import java.util.ArrayList;
import java.util.List;
import java.util.Set;
import java.util.regex.Matcher;
import java.util.regex.Pattern;

/**
 * Rules of ../shared/LANGUAGE.md that can be seen from the words of src/main/java/HallBuilds.java and from what
 * javac makes of it.
 */
public final class LanguageTest {
    private static final Path SOURCE = Path.of("src/main/java/HallBuilds.java");
    private static final String[] FORBIDDEN = {
        "\\b(throw|throws|try|catch|finally|synchronized|assert|import|package|native|volatile|transient)\\b",
        "->", "::", "\\w+Exact\\b", "\\b(System\\.(?!arraycopy)\\w+|Thread|Random|Object|Exception|Error)\\b",
        "\\b(equals|hashCode|toString)\\b", "\\bstatic\\s*\\{", "\\bwhile\\s*\\(\\s*true\\s*\\)", "\\bvar\\b",
        "\\bpublic\\s+(?!(static final int|final class HallBuilds|int|HallBuilds)\\b)", "\\bprotected\\b",
        "(?<!static )(?<!static final )\\bclass\\s+(?!HallBuilds\\b)", "\\bfor\\s*\\(\\s*;", "\\bfor\\s*\\([^;:]*;\\s*;"};
    private static final String[] FORBIDDEN_STEPS = {
        "athrow", "catch", "monitorenter", "invokedynamic", "invokeinterface", "instanceof", "fdiv", "ddiv", "frem", "drem"};
    private static final String[] MAKING = {"new", "newarray", "anewarray", "multianewarray"};
    private static final Set<String> LIBRARY = Set.of(
        "java/lang/Object.\"<init>\"", "java/lang/Math.min", "java/lang/Math.max", "java/lang/System.arraycopy", "\"[I\".clone");
    private static final Set<Class<?>> TYPES = Set.of(
        int.class, long.class, boolean.class, char.class, int[].class, long[].class, boolean[].class, char[].class);
    private static final Set<Class<?>> CONSTANT_TYPES = Set.of(
        int.class, long.class, boolean.class, char.class, String.class, int[].class, long[].class, char[].class, byte[].class);
    private static final int MOST_CLASSES = 12, MOST_FIELDS = 20, MOST_PARAMETERS = 7, MOST_LINES = 60, DEEPEST = 8;

    private final Check check = new Check("LanguageTest");
    private final String source;

    private LanguageTest() throws Exception {
        source = Files.readString(SOURCE);
    }

    public static void main(String[] args) throws Exception {
        LanguageTest test = new LanguageTest();
        test.words();
        test.signs();
        test.lines();
        test.shapes();
        test.steps();
        test.check.close();
    }

    private void holds(String what, boolean so) {
        check.due(what, so ? 1 : 0, 1);
    }

    private void words() {
        String code = source.replaceAll("(?s)/\\*.*?\\*/", "").replaceAll("//[^\n]*", "");
        for (String words : FORBIDDEN) {
            Matcher matcher = Pattern.compile(words).matcher(code);
            holds("there is no " + words, !matcher.find());
        }
    }

    private void signs() {
        for (int k = 0; k < source.length(); k++) {
            char sign = source.charAt(k);
            if (sign > 126 || sign < 32 && sign != '\n') check.due("sign at " + k, sign, 0);
        }
    }

    private void lines() {
        int methods = 0;
        Matcher method = Pattern.compile("(?ms)^( {4}| {8})((?!for |if |switch )\\w[^\n;=]*\\)) \\{\n.*?^\\1\\}$").matcher(source);
        while (method.find()) {
            long lines = method.group().lines().count();
            holds(lines + " lines of " + method.group(2), lines <= MOST_LINES);
            methods++;
        }
        holds("methods seen: " + methods, methods > 80);
    }

    private void shapes() {
        List<Class<?>> types = new ArrayList<>(List.of(HallBuilds.class.getDeclaredClasses()));
        types.add(HallBuilds.class);
        holds("classes: " + types.size(), types.size() <= MOST_CLASSES);
        for (Class<?> type : types) {
            holds(type + " has no classes inside", type == HallBuilds.class || type.getDeclaredClasses().length == 0);
            List<Executable> called = new ArrayList<>(List.of(type.getDeclaredMethods()));
            called.addAll(List.of(type.getDeclaredConstructors()));
            for (Executable one : called) holds("parameters of " + one, one.getParameterCount() <= MOST_PARAMETERS);
            int fields = 0;
            for (Field field : type.getDeclaredFields()) {
                boolean isStatic = Modifier.isStatic(field.getModifiers());
                if (!isStatic) fields++;
                if (isStatic) holds(field + " is a constant",
                    Modifier.isFinal(field.getModifiers()) && CONSTANT_TYPES.contains(field.getType()));
                else holds("type of " + field, TYPES.contains(field.getType()) || isOwn(field.getType()));
            }
            holds("fields of " + type + ": " + fields, fields <= MOST_FIELDS);
        }
    }

    private static boolean isOwn(Class<?> type) {
        Class<?> one = type.isArray() ? type.getComponentType() : type;
        return one.getEnclosingClass() == HallBuilds.class;
    }

    private void steps() {
        ByteCode code = new ByteCode(HallBuilds.class);
        holds("methods seen: " + code.methods().size(), code.methods().size() > 80);
        for (String method : code.methods()) {
            for (String step : FORBIDDEN_STEPS) holds(step + " in " + method, !code.stepsOf(method).contains(step));
            // Rows are made in constructors and used again, so that a long run makes nothing more.
            for (String step : MAKING) {
                holds(step + " in " + method, code.isConstructor(method) || !code.stepsOf(method).contains(step));
            }
        }
        for (String call : code.callsOutside()) holds("call of " + call, LIBRARY.contains(call));
        List<String> chain = code.longestChain();
        holds("chain of calls " + chain, chain.size() <= DEEPEST);
    }
}
