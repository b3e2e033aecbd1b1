import java.io.IOException;
import java.nio.file.Files;
import java.nio.file.Path;

/** The words of ../shared/DOC.md, so that a test can name the sentence that it is of. */
final class Doc {
    static final int PROMISES = 30;

    private final String[] sections = new String[PROMISES + 1];

    /** Section 0 is all that stands ahead of promise 1. */
    Doc() throws IOException {
        String[] rows = Files.readString(Path.of("../shared/DOC.md")).split("\n");
        int section = 0;
        sections[0] = "";
        for (String row : rows) {
            if (row.startsWith("## Promise ")) {
                section = Integer.parseInt(row.substring(11, row.indexOf(':')));
                sections[section] = "";
            }
            sections[section] += row.trim() + " ";
        }
    }

    /** The section that says these words, the earliest of several; -1: none does. */
    int sectionOf(String words) {
        for (int section = 0; section <= PROMISES; section++) {
            if (sections[section] != null && sections[section].contains(words)) return section;
        }
        return -1;
    }

    boolean says(int section, String words) {
        return sections[section] != null && sections[section].contains(words);
    }
}
