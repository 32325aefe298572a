import java.io.IOException;
import java.nio.file.Files;
import java.nio.file.Path;
import java.util.ArrayList;
import java.util.List;

/** The text of the document, to find the sentences that have no test of their own. */
final class Document {
    static final int DESCRIPTION = 0;

    private static final Path PLACE = Path.of("../shared/DOC.md");
    private static final String LABELS =
            "(Records|Disk|Open and closed|Transactions|Commit|Free blocks|Power failure|Pins|Log"
            + "|Exceptions|In doubt)\\. ";
    private static final String TRIVIAL_PARAMETER =
            "- `\\w+`: the (slot|key|value|page|pin|block|cell|new content|lowest key|highest key)";
    private static final String[] OVERVIEW = {
        "A small key-value file on a simulated disk with shadow paging: commits write copies of the"
            + " changed pages, a new page table and one of two alternating roots, so that an"
            + " interrupted commit is invisible; with group commit, checksums, pinned versions,"
            + " recovery, and a salvage scan.",
        "The constructor and the methods follow, a promise each: the signature, then what it does.",
    };

    private Document() {
    }

    /** The sentences of a promise, or of all before the promises, with single spaces. */
    static String part(int number) throws IOException {
        StringBuilder text = new StringBuilder();
        boolean inside = false;
        for (String line : Files.readAllLines(PLACE)) {
            if (line.startsWith("## ")) {
                inside = isHeading(line, number);
            } else if (inside && !isFrame(line)) {
                text.append(withoutLabel(line)).append(' ');
            }
        }
        return plain(text.toString());
    }

    /** What a part says beside the sentences, longest first, so that none tears another apart. */
    static String rest(int number, List<String> sentences) throws IOException {
        List<String> ordered = new ArrayList<>(sentences);
        ordered.sort((a, b) -> b.length() - a.length());
        String left = part(number);
        for (String sentence : ordered) {
            left = left.replace(sentence, " ");
        }
        for (String sentence : OVERVIEW) {
            left = left.replace(sentence, " ");
        }
        return plain(left);
    }

    private static boolean isHeading(String line, int number) {
        if (number == DESCRIPTION) {
            return line.equals("## Description") || line.equals("## What it is");
        }
        return line.startsWith("## Promise " + number + ":");
    }

    /** Signatures, headlines, and parameters that are told by their names alone. */
    private static boolean isFrame(String line) {
        return line.startsWith("`") || line.startsWith("---- ") || line.matches(TRIVIAL_PARAMETER);
    }

    private static String withoutLabel(String line) {
        return line.replaceFirst("^" + LABELS, "").replaceFirst("^- ", "");
    }

    private static String plain(String text) {
        return text.replace("`", "").replaceAll("\\s+", " ").trim();
    }
}
