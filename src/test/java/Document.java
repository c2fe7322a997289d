import java.nio.file.Files;
import java.nio.file.Path;
import java.util.ArrayList;
import java.util.LinkedHashMap;
import java.util.List;
import java.util.Map;

/** The words of ../shared/DOC.md by sections, and which of them a test has quoted. */
final class Document {
    private static final Path PLACE = Path.of("../shared/DOC.md");

    private static final class Section {
        private final String words;
        private final boolean[] quoted;

        Section(String words) {
            this.words = words;
            quoted = new boolean[words.length()];
        }
    }

    private final Map<String, Section> sections = new LinkedHashMap<>();

    Document() throws Exception {
        if (!isThere()) return;
        for (String part : Files.readString(PLACE).split("\n## ")) {
            String title = part.lines().findFirst().orElse("");
            String rest = part.substring(Math.min(part.length(), title.length()));
            sections.put(title.split(":")[0], new Section(plain(rest)));
        }
    }

    static boolean isThere() {
        return Files.isReadable(PLACE);
    }

    private static String plain(String words) {
        return words.replace("`", "").replaceAll("\\s+", " ").strip();
    }

    /** Marks the words as quoted; tells whether they stand in the section. */
    boolean quote(String title, String words) {
        Section section = sections.get(title);
        String wanted = plain(words);
        if (section == null || wanted.isEmpty()) return false;
        int found = section.words.indexOf(wanted);
        for (int at = found; at >= 0; at = section.words.indexOf(wanted, at + 1)) {
            for (int k = at; k < at + wanted.length(); k++) section.quoted[k] = true;
        }
        return found >= 0;
    }

    /** What stands in a section and no test has quoted, but for signs between the sentences. */
    List<String> notQuoted(String title) {
        List<String> found = new ArrayList<>();
        Section section = sections.get(title);
        if (section == null) return List.of("no section " + title);
        StringBuilder words = new StringBuilder();
        for (int k = 0; k <= section.words.length(); k++) {
            if (k < section.words.length() && !section.quoted[k]) {
                words.append(section.words.charAt(k));
                continue;
            }
            if (words.toString().matches(".*[A-Za-z0-9].*")) found.add(words.toString().strip());
            words.setLength(0);
        }
        return found;
    }
}
