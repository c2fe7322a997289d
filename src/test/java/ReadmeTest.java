import java.lang.reflect.Method;
import java.nio.file.Files;
import java.nio.file.Path;
import java.util.ArrayList;
import java.util.Comparator;
import java.util.List;
import java.util.regex.Matcher;
import java.util.regex.Pattern;
import java.util.stream.Stream;

/** What README.md shows is so: its code answers as it says, its commands run, the names in its tables are there. */
public final class ReadmeTest {
    private static final Path ROOT = Path.of("").toAbsolutePath();
    private static final Path PLACE = Path.of("README.md");
    private static final Path DOCUMENT = Path.of("../shared/DOC.md");
    private static final Pattern BLOCK = Pattern.compile("(?ms)^```(\\w+)\n(.*?)^```$");
    private static final Pattern PROGRAM = Pattern.compile("public final class (\\w+)");
    private static final Pattern STATEMENT = Pattern.compile("(.+); *// (-?\\d+|[A-Z_]+): .+");
    private static final String ALL_TESTS = ".ci/run\n";

    private final Check check = new Check("ReadmeTest");
    private final String page;
    private final List<String> kinds = new ArrayList<>();
    private final List<String> blocks = new ArrayList<>();
    private final Path place;
    private final Path project;

    private ReadmeTest() throws Exception {
        page = Files.readString(PLACE);
        Matcher matcher = BLOCK.matcher(page);
        while (matcher.find()) {
            kinds.add(matcher.group(1));
            blocks.add(matcher.group(2));
        }
        // The commands leave files behind, so they run beside the project, in a place that looks like it.
        place = Files.createTempDirectory("readme");
        project = Files.createDirectory(place.resolve("project"));
        Files.createSymbolicLink(project.resolve("src"), ROOT.resolve("src"));
        Files.createSymbolicLink(place.resolve("shared"), ROOT.resolve("../shared"));
    }

    public static void main(String[] args) throws Exception {
        ReadmeTest test = new ReadmeTest();
        try {
            test.programs();
            test.commands();
            test.statements();
        } finally {
            test.clear();
        }
        test.errors();
        test.promises();
        test.terms();
        test.tests();
        test.check.close();
    }

    private void clear() throws Exception {
        try (Stream<Path> files = Files.walk(place)) {
            for (Path file : files.sorted(Comparator.reverseOrder()).toList()) Files.delete(file);
        }
    }

    private void holds(String what, boolean so) {
        check.due(what, so ? 1 : 0, 1);
    }

    private void programs() throws Exception {
        int found = 0;
        for (int k = 0; k < blocks.size(); k++) {
            Matcher program = PROGRAM.matcher(blocks.get(k));
            if (!kinds.get(k).equals("java") || !program.find()) continue;
            Files.writeString(project.resolve(program.group(1) + ".java"), blocks.get(k));
            found++;
        }
        check.due("programs shown", found, 1);
    }

    private void commands() throws Exception {
        int found = 0;
        for (int k = 0; k < blocks.size(); k++) {
            if (!kinds.get(k).equals("sh")) continue;
            found++;
            // This test is itself run by .ci/run.
            if (blocks.get(k).equals(ALL_TESTS)) {
                holds(ALL_TESTS + " can be run", Files.isExecutable(ROOT.resolve(ALL_TESTS.strip())));
                continue;
            }
            boolean isTold = k + 1 < kinds.size() && kinds.get(k + 1).equals("text");
            runs(blocks.get(k), isTold ? blocks.get(k + 1) : null);
        }
        check.due("commands shown", found, 4);
    }

    private void runs(String command, String told) throws Exception {
        Process process = new ProcessBuilder("sh", "-e", "-c", command).directory(project.toFile())
            .redirectErrorStream(true).start();
        String printed = new String(process.getInputStream().readAllBytes());
        check.due("exit code of " + command + printed, process.waitFor(), 0);
        if (told != null) holds(command + "printed\n" + printed + "told is\n" + told, printed.equals(told));
    }

    /** Compiles the single statements as one program, and has it compare each answer with the one that is told. */
    private void statements() throws Exception {
        StringBuilder program = new StringBuilder("final class Shown {\npublic static void main(String[] args) {\n");
        program.append("Check check = new Check(\"README.md\");\n");
        int found = 0;
        for (int k = 0; k < blocks.size(); k++) {
            if (!kinds.get(k).equals("java") || PROGRAM.matcher(blocks.get(k)).find()) continue;
            for (String line : blocks.get(k).split("\n")) {
                program.append(compared(line)).append('\n');
                found++;
            }
        }
        holds("statements shown", found > 20);
        Files.writeString(project.resolve("Shown.java"), program.append("check.close();\n}\n}\n"));
        runs("javac -d shown src/main/java/HallBuilds.java src/test/java/Check.java Shown.java\njava -cp shown Shown\n", null);
    }

    private String compared(String line) {
        Matcher statement = STATEMENT.matcher(line);
        if (!statement.matches()) {
            holds("an answer is told: " + line, line.equals("HallBuilds hall = new HallBuilds();"));
            return line;
        }
        String call = statement.group(1);
        String told = statement.group(2);
        String due = Character.isLetter(told.charAt(0)) ? "HallBuilds." + told : told;
        return "check.due(\"" + call.replace("\"", "") + "\", " + call + ", " + due + ");";
    }

    private void errors() throws Exception {
        List<String[]> rows = table("Answer");
        check.due("errors told, and NONE", rows.size(), 6);
        for (String[] row : rows) {
            check.due(row[1], HallBuilds.class.getField(row[1]).getInt(null), Integer.parseInt(row[0]));
        }
    }

    private void promises() throws Exception {
        String document = Files.readString(DOCUMENT);
        List<String[]> rows = table("Promise");
        check.due("promises told", rows.size(), document.split("\n## Promise \\d").length - 1);
        for (int k = 0; k < rows.size(); k++) {
            String[] row = rows.get(k);
            check.due("number of the promise", Integer.parseInt(row[0]), k + 1);
            String section = document.split("\n## Promise " + (k + 1) + ": ")[1].split("\n## ")[0];
            String face = row[1].equals("HallBuilds") ? "\n`HallBuilds()`: " : "\n`int " + row[1] + "(";
            holds("promise " + row[0] + " is " + row[1], section.contains(face));
            areThere(row[2]);
            holds("PromisesTest." + row[3], hasMethod("PromisesTest", row[3]));
            holds("PromiseSentences." + row[4], hasMethod("PromiseSentences", row[4]));
        }
    }

    private void terms() throws Exception {
        List<String[]> rows = table("Terms");
        holds("terms told", rows.size() > 5);
        for (String[] row : rows) {
            areThere(row[1]);
            for (String name : row[2].split(", ")) holds("TermSentences." + name, hasMethod("TermSentences", name));
        }
    }

    private void tests() throws Exception {
        List<String> told = new ArrayList<>();
        for (String[] row : table("Test")) told.add(row[0] + ".java");
        try (Stream<Path> files = Files.list(Path.of("src/test/java"))) {
            for (String file : files.map(path -> path.getFileName().toString()).toList()) {
                holds(file + " is told as a test", told.contains(file) == file.endsWith("Test.java"));
            }
        }
        for (String file : told) holds(file + " is there", Files.exists(Path.of("src/test/java", file)));
    }

    /** The names of a cell, "Inside.method" or "Inside". */
    private void areThere(String names) throws Exception {
        for (String name : names.split(", ")) {
            String[] parts = name.split("\\.");
            String inside = "HallBuilds$" + parts[0];
            holds(name, parts.length == 1 ? Class.forName(inside) != null : hasMethod(inside, parts[1]));
        }
    }

    private static boolean hasMethod(String type, String name) throws Exception {
        for (Method method : Class.forName(type).getDeclaredMethods()) if (method.getName().equals(name)) return true;
        return false;
    }

    /** The rows of the table whose first title this is, without the signs for code. */
    private List<String[]> table(String title) {
        List<String[]> rows = new ArrayList<>();
        boolean inside = false;
        for (String line : page.split("\n")) {
            inside = line.startsWith("| " + title + " |") || inside && line.startsWith("|");
            if (!inside || line.startsWith("| " + title + " |") || line.startsWith("|--")) continue;
            rows.add(line.substring(2, line.length() - 2).replace("`", "").split(" \\| "));
        }
        return rows;
    }
}
