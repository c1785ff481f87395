import java.io.IOException;
import java.nio.file.Files;
import java.nio.file.Path;
import java.util.ArrayList;
import java.util.List;
import java.util.Map;
import java.util.TreeMap;

/** The document's Description (section 0) and its promises (sections 1 to 40), and what of them the tests quote. */
final class Document {
    private static final Path PLACE = Path.of("..", "shared", "DOC.md");

    private static final class Section {
        final String text;
        final boolean[] quoted;

        Section(String text) {
            this.text = text;
            quoted = new boolean[text.length()];
        }

        boolean quote(String excerpt) {
            int from = text.indexOf(excerpt);
            for (int at = from; at >= 0; at = text.indexOf(excerpt, at + 1)) {
                for (int i = at; i < at + excerpt.length(); i++) {
                    quoted[i] = true;
                }
            }
            return from >= 0;
        }
    }

    private final Map<Integer, Section> sections = new TreeMap<>();
    private final Map<Integer, String> signatures = new TreeMap<>();

    private Document(List<String> lines) {
        StringBuilder text = new StringBuilder();
        int number = -1;
        for (String line : lines) {
            boolean isHead = line.startsWith("## ");
            if (isHead && number >= 0) {
                sections.put(number, new Section(text.toString().trim().replaceAll("\\s+", " ")));
            }
            if (isHead) {
                number = numberOf(line);
                text.setLength(0);
            } else if (number > 0 && isSignature(line)) {
                signatures.put(number, line.replace("`", ""));
            } else if (!isHeading(line)) {
                text.append(line.startsWith("- ") ? line.substring(2) : line).append(' ');
            }
        }
    }

    private static int numberOf(String head) {
        if (head.equals("## Description")) {
            return 0;
        }
        return head.startsWith("## Promise ") ? Integer.parseInt(head.substring(11, head.indexOf(':'))) : -1;
    }

    private static boolean isSignature(String line) {
        return line.startsWith("`") && line.endsWith("`");
    }

    private static boolean isHeading(String line) {
        return line.startsWith("----");
    }

    static Document read() {
        try {
            return new Document(Files.readAllLines(PLACE));
        } catch (IOException e) {
            throw new IllegalStateException(PLACE.toAbsolutePath() + " is not there", e);
        }
    }

    /** The signatures by the numbers of their promises. */
    Map<Integer, String> signatures() {
        return signatures;
    }

    int promises() {
        return sections.size() - 1;
    }

    /** Marks what no call can show. */
    void leaveOut(String excerpt) {
        sections.get(0).quote(excerpt);
    }

    /** Tells whether the excerpt stands in the section of the promise or in the Description. */
    boolean quote(int promise, String excerpt) {
        Section section = sections.get(promise);
        return section != null && section.quote(excerpt) || sections.get(0).quote(excerpt);
    }

    /** The pieces with a letter or a number in them that no test has quoted. */
    List<String> unquoted() {
        List<String> pieces = new ArrayList<>();
        for (Map.Entry<Integer, Section> entry : sections.entrySet()) {
            Section section = entry.getValue();
            StringBuilder piece = new StringBuilder();
            for (int i = 0; i <= section.text.length(); i++) {
                if (i < section.text.length() && !section.quoted[i]) {
                    piece.append(section.text.charAt(i));
                } else {
                    if (piece.toString().matches(".*[a-zA-Z0-9].*")) {
                        pieces.add("section " + entry.getKey() + ": " + piece);
                    }
                    piece.setLength(0);
                }
            }
        }
        return pieces;
    }
}
