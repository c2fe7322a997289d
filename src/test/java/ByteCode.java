import java.io.PrintWriter;
import java.io.StringWriter;
import java.util.ArrayList;
import java.util.LinkedHashMap;
import java.util.LinkedHashSet;
import java.util.List;
import java.util.Map;
import java.util.Set;
import java.util.regex.Matcher;
import java.util.regex.Pattern;
import java.util.spi.ToolProvider;

/** What javac has made of the class and of those inside it: for each method what it does, and which it calls. */
final class ByteCode {
    private static final Pattern TYPE = Pattern.compile("(?:\\w+ )*(?:class|interface) ([\\w$]+).*\\{");
    private static final Pattern METHOD = Pattern.compile("  .*?([\\w$]+)\\(.*\\);");
    private static final Pattern STEP = Pattern.compile(" +\\d+: (\\w+).*");
    private static final Pattern CALL = Pattern.compile(".*// (?:Interface)?Method (?:(\\S+)\\.)?(\\S+):.*");
    private static final String CONSTRUCTOR = "\"<init>\"";

    /** The words of all steps of a method. */
    private final Map<String, Set<String>> steps = new LinkedHashMap<>();
    private final Map<String, Set<String>> calls = new LinkedHashMap<>();
    // Where the reading is.
    private String type = "";
    private String method = "";

    ByteCode(Class<?> face) {
        List<String> words = new ArrayList<>(List.of("-p", "-c", "-cp", System.getProperty("java.class.path"), face.getName()));
        for (Class<?> inside : face.getDeclaredClasses()) words.add(inside.getName());
        StringWriter printed = new StringWriter();
        PrintWriter writer = new PrintWriter(printed);
        int exit = ToolProvider.findFirst("javap").orElseThrow().run(writer, writer, words.toArray(new String[0]));
        if (exit != 0) throw new IllegalStateException("javap: " + printed);
        printed.toString().lines().forEach(this::read);
    }

    private void read(String line) {
        Matcher matcher = TYPE.matcher(line);
        if (matcher.matches()) {
            type = matcher.group(1);
            return;
        }
        matcher = METHOD.matcher(line);
        if (matcher.matches() || line.equals("  static {};")) {
            String name = matcher.matches() ? matcher.group(1) : "static {}";
            method = type + "." + (name.equals(type) ? CONSTRUCTOR : name);
            if (steps.put(method, new LinkedHashSet<>()) != null) throw new IllegalStateException("two methods " + method);
            calls.put(method, new LinkedHashSet<>());
            return;
        }
        matcher = STEP.matcher(line);
        if (matcher.matches()) steps.get(method).add(matcher.group(1));
        if (line.contains("Exception table")) steps.get(method).add("catch");
        matcher = CALL.matcher(line);
        if (!matcher.matches()) return;
        String owner = matcher.group(1) == null ? type : matcher.group(1);
        calls.get(method).add(owner + "." + matcher.group(2));
    }

    Set<String> methods() {
        return steps.keySet();
    }

    boolean isConstructor(String name) {
        return name.endsWith(CONSTRUCTOR) || name.endsWith("static {}");
    }

    Set<String> stepsOf(String name) {
        return steps.get(name);
    }

    /** Calls of what is not part of the class. */
    Set<String> callsOutside() {
        Set<String> found = new LinkedHashSet<>();
        for (Set<String> called : calls.values()) for (String name : called) if (!steps.containsKey(name)) found.add(name);
        return found;
    }

    /** The longest chain of the class's own methods that call one another, as names; one that comes twice ends it. */
    List<String> longestChain() {
        List<String> longest = List.of();
        for (String name : steps.keySet()) {
            List<String> chain = longestFrom(name, List.of());
            if (chain.size() > longest.size()) longest = chain;
        }
        return longest;
    }

    private List<String> longestFrom(String name, List<String> above) {
        List<String> chain = new ArrayList<>(above);
        chain.add(name);
        if (above.contains(name)) throw new IllegalStateException("recursion: " + chain);
        List<String> longest = chain;
        for (String called : calls.get(name)) {
            if (!steps.containsKey(called)) continue;
            List<String> deeper = longestFrom(called, chain);
            if (deeper.size() > longest.size()) longest = deeper;
        }
        return longest;
    }
}
