import java.nio.file.Files;
import java.nio.file.Path;
import java.util.regex.Matcher;
import java.util.regex.Pattern;

/** Rules of ../shared/LANGUAGE.md that can be seen from the words of src/main/java/HallBuilds.java. */
public final class LanguageTest {
    private static final Path SOURCE = Path.of("src/main/java/HallBuilds.java");
    private static final String[] FORBIDDEN = {
        "\\b(throw|throws|try|catch|finally|synchronized|assert|import|package|native|volatile|transient)\\b",
        "->", "::", "\\w+Exact\\b", "\\b(System\\.(?!arraycopy)\\w+|Thread|Random|Object|Exception|Error)\\b",
        "\\b(equals|hashCode|toString)\\b", "\\bstatic\\s*\\{", "\\bwhile\\s*\\(\\s*true\\s*\\)", "\\bvar\\b",
        "\\bpublic\\s+(?!(static final int|final class HallBuilds|int|HallBuilds)\\b)", "\\bprotected\\b",
        "(?<!static )(?<!static final )\\bclass\\s+(?!HallBuilds\\b)"};

    public static void main(String[] args) throws Exception {
        Check check = new Check("LanguageTest");
        String source = Files.readString(SOURCE);
        String code = source.replaceAll("(?s)/\\*.*?\\*/", "").replaceAll("//[^\n]*", "");
        for (String words : FORBIDDEN) {
            Matcher matcher = Pattern.compile(words).matcher(code);
            check.due("is there " + words, matcher.find() ? 1 : 0, 0);
        }
        // Rows are made in constructors and field initialisers, so that a long run makes nothing more.
        Matcher made = Pattern.compile("(?m)^.*\\bnew \\w+.*$").matcher(code);
        while (made.find()) {
            String line = made.group().strip();
            boolean isField = line.startsWith("private final ");
            boolean fillsRow = line.startsWith("for (int ") && line.contains("] = new Hall()");
            boolean inFace = line.matches("\\w+ = new \\w+\\(\\w*\\);");
            check.due("made outside a constructor: " + line, isField || fillsRow || inFace ? 1 : 0, 1);
        }
        for (int k = 0; k < source.length(); k++) {
            char sign = source.charAt(k);
            if (sign > 126 || sign < 32 && sign != '\n') check.due("sign at " + k, sign, 0);
        }
        check.close();
    }
}
