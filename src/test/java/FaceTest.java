import java.lang.reflect.Constructor;
import java.lang.reflect.Field;
import java.lang.reflect.Method;
import java.lang.reflect.Modifier;
import java.nio.file.Files;
import java.nio.file.Path;
import java.util.ArrayList;
import java.util.Arrays;
import java.util.List;
import java.util.regex.Matcher;
import java.util.regex.Pattern;

/** The class has the document's face, and nothing beside it that others could see. */
public final class FaceTest {
    private static final String[] METHODS = {
        "set(int,int)", "stand(int,int,int,int)", "crew(int,int)", "end()", "find()", "pass(int)",
        "ofStand(int,int)", "ofCrew(int,int)", "load(int)", "count(int)", "waitsFor(int)",
        "allIn()", "withCrew(int)", "leastDock()", "put(long)", "wipe()", "fault()", "carryOut()",
        "undo()", "save(int)", "restore(int)"};
    private static final String[] CONSTANTS = {
        "NO_SUCH=-1", "BAD_VALUE=-2", "BAD_TEXT=-3", "TOO_MANY=-4", "NOT_POSSIBLE=-5", "NONE=-6",
        "DOCK=0", "UNLOAD=1", "PHASE=2"};

    private static final Path DOCUMENT = Path.of("../shared/DOC.md");

    public static void main(String[] args) throws Exception {
        Check check = new Check("FaceTest");
        String told = Files.readString(DOCUMENT).split("```java\n")[1].split("```")[0];
        check.due("methods told " + toldMethods(told), same(toldMethods(told), METHODS), 1);
        check.due("constants told " + toldConstants(told), same(toldConstants(told), CONSTANTS), 1);
        check.due("constructor told", told.contains("public HallBuilds();") ? 1 : 0, 1);
        check.due("class told", told.startsWith("public final class HallBuilds {\n") ? 1 : 0, 1);
        Class<?> face = HallBuilds.class;
        check.due("public and final", face.getModifiers() & (Modifier.PUBLIC | Modifier.FINAL), 17);
        check.due("methods " + seenMethods(face), same(seenMethods(face), METHODS), 1);
        check.due("constants " + seenConstants(face), same(seenConstants(face), CONSTANTS), 1);
        check.due("constructors", face.getDeclaredConstructors().length, 1);
        for (Constructor<?> constructor : face.getDeclaredConstructors()) {
            check.due("constructor is public", constructor.getModifiers(), Modifier.PUBLIC);
            check.due("constructor's parameters", constructor.getParameterCount(), 0);
        }
        for (Class<?> inside : face.getDeclaredClasses()) {
            check.due(inside + " is static", inside.getModifiers() & Modifier.STATIC, Modifier.STATIC);
            check.due(inside + " is seen", inside.getModifiers() & (Modifier.PUBLIC | Modifier.PROTECTED), 0);
            for (Method method : inside.getDeclaredMethods()) {
                check.due(method + " bears a public name", isPublicName(method.getName()), 0);
            }
        }
        check.close();
    }

    private static List<String> toldMethods(String face) {
        List<String> told = new ArrayList<>();
        Matcher method = Pattern.compile("public (\\w+) (\\w+)\\((.*)\\);").matcher(face);
        while (method.find()) {
            String kind = method.group(1).equals("int") ? "" : "odd ";
            told.add(kind + method.group(2) + "(" + method.group(3).replaceAll(" \\w+(,|$)", "$1").replace(" ", "") + ")");
        }
        return told;
    }

    private static List<String> toldConstants(String face) {
        List<String> told = new ArrayList<>();
        Matcher constants = Pattern.compile("public static final int (.*);").matcher(face);
        while (constants.find()) {
            for (String constant : constants.group(1).split(", ")) told.add(constant.replace(" ", ""));
        }
        return told;
    }

    private static List<String> seenMethods(Class<?> face) {
        List<String> seen = new ArrayList<>();
        for (Method method : face.getDeclaredMethods()) {
            boolean hidden = Modifier.isPrivate(method.getModifiers());
            if (hidden && isPublicName(method.getName()) == 0) continue;
            List<String> parameters = new ArrayList<>();
            for (Class<?> type : method.getParameterTypes()) parameters.add(type.getName());
            String kind = method.getReturnType() == int.class && method.getModifiers() == Modifier.PUBLIC ? "" : "odd ";
            seen.add(kind + method.getName() + "(" + String.join(",", parameters) + ")");
        }
        return seen;
    }

    private static List<String> seenConstants(Class<?> face) throws Exception {
        List<String> seen = new ArrayList<>();
        for (Field field : face.getDeclaredFields()) {
            if (Modifier.isPrivate(field.getModifiers())) continue;
            int constant = Modifier.PUBLIC | Modifier.STATIC | Modifier.FINAL;
            boolean isConstant = field.getModifiers() == constant && field.getType() == int.class;
            seen.add(isConstant ? field.getName() + "=" + field.getInt(null) : "odd " + field);
        }
        return seen;
    }

    private static int isPublicName(String name) {
        for (String method : METHODS) if (method.startsWith(name + "(")) return 1;
        return 0;
    }

    private static int same(List<String> seen, String[] wanted) {
        String[] sorted = seen.toArray(new String[0]);
        String[] due = wanted.clone();
        Arrays.sort(sorted);
        Arrays.sort(due);
        return Arrays.equals(sorted, due) ? 1 : 0;
    }
}
