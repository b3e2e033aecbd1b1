import java.io.IOException;
import java.nio.file.Files;
import java.nio.file.Path;
import java.util.ArrayList;
import java.util.List;

/** The words of ../shared/DOC.md, so that a test can name the sentence that it is of, and which sentences have no test. */
final class Doc {
    static final int PROMISES = 30;

    private static final char QUOTED = '\u0001';

    private final String[] sections = new String[PROMISES + 1];
    private final String[] unquoted = new String[PROMISES + 1];
    private final List<String> frame = new ArrayList<>();
    private final List<String> face = new ArrayList<>();
    private final List<String> interfaceRows = new ArrayList<>();

    /** Section 0 is all that stands ahead of promise 1. */
    Doc() throws IOException {
        String[] rows = Files.readString(Path.of("../shared/DOC.md")).split("\n");
        int section = 0;
        sections[0] = "";
        for (String row : rows) {
            if (row.startsWith("## Promise ")) {
                section = Integer.parseInt(row.substring(11, row.indexOf(':')));
                sections[section] = "";
            }
            sections[section] += row.trim() + " ";
            sortOut(row.trim());
        }
        frame.sort((a, b) -> b.length() - a.length());
        for (int k = 0; k <= PROMISES; k++) unquoted[k] = promisedPartOf(k);
    }

    /** Headings and signatures say nothing that a sentence's test could be of; FaceTest looks at the signatures. */
    private void sortOut(String row) {
        if (row.startsWith("#") || row.startsWith("```")) frame.add(row);
        if (row.startsWith("======== ")) frame.add(row.substring(0, 10));
        if (row.startsWith("`") && row.contains("`: ")) frame.add(row.substring(0, row.indexOf("`: ") + 2));
        if (row.startsWith("public ")) face.add(row);
        if (row.startsWith("Ahead of the calls ")) interfaceRows.add(row);
    }

    private String promisedPartOf(int section) {
        String all = sections[section] == null ? "" : sections[section];
        int from = section == 0 ? all.indexOf("## Terms") : 0;
        int to = all.indexOf(section == 0 ? "Ahead of the calls " : "## Not promised");
        return all.substring(Math.max(from, 0), to < 0 ? all.length() : to);
    }

    /** Whether the section says these words; they count as quoted from now on. */
    boolean quotes(int section, String words) {
        if (sections[section] == null || !sections[section].contains(words)) return false;
        String all = promisedPartOf(section);
        StringBuilder left = new StringBuilder(unquoted[section]);
        for (int at = all.indexOf(words); at >= 0; at = all.indexOf(words, at + 1)) {
            for (int k = at; k < at + words.length(); k++) left.setCharAt(k, QUOTED);
        }
        unquoted[section] = left.toString();
        return true;
    }

    /** The words of the section, of the Terms or of a promise, that nothing has quoted: empty if there are none. */
    String unquoted(int section) {
        String left = unquoted[section];
        for (String part : frame) left = left.replace(part, " ");
        left = left.replace(QUOTED, ' ').replaceAll(" +", " ").trim();
        return left.matches("[^a-zA-Z0-9]*") ? "" : left;
    }

    /** The rows of 'The public face' that begin with public. */
    List<String> face() {
        return face;
    }

    /** The rows that tell what stands ahead of which calls. */
    List<String> interfaceRows() {
        return interfaceRows;
    }

    /** The signature that begins a promise. */
    String signatureOf(int promise) {
        String all = sections[promise] == null ? "" : sections[promise];
        int from = all.indexOf('`');
        int to = all.indexOf('`', from + 1);
        return from < 0 || to < 0 ? "" : all.substring(from + 1, to);
    }
}
