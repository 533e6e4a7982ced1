import java.io.IOException;
import java.nio.file.Files;
import java.nio.file.Path;
import java.util.ArrayList;
import java.util.List;

/** Reads src/test/sentences.txt: the document in pieces, each with its tests and with changes that break it. */
final class Sentences {
    private static final Path TABLE = Path.of("src/test/sentences.txt");

    /** A change of the class: the text that stands once in its source, and what replaces it. */
    record Change(String text, String replacement) {
    }

    /** A piece has tests and changes that they catch, or the reason why it has none. */
    record Piece(String text, List<String> reasons, List<String> tests, List<Change> changes) {
    }

    private Sentences() {
    }

    static String collapsed(String text) {
        return text.replaceAll("\\s+", " ").trim();
    }

    static List<Piece> read() throws IOException {
        List<Piece> pieces = new ArrayList<>();
        Piece piece = null;
        String text = null;
        for (String line : Files.readAllLines(TABLE)) {
            if (line.startsWith("= ")) {
                piece = new Piece(line.substring(2), new ArrayList<>(), new ArrayList<>(), new ArrayList<>());
                pieces.add(piece);
            } else if (line.startsWith("  (")) {
                piece.reasons().add(line.trim());
            } else if (line.startsWith("  - ")) {
                text = line.substring(4);
            } else if (line.startsWith("  +")) {
                piece.changes().add(new Change(text, line.substring(3).trim()));
            } else if (line.startsWith("  ")) {
                piece.tests().addAll(List.of(line.trim().split(" +")));
            } else if (!line.isEmpty() && !line.startsWith("#")) {
                throw new IOException("a line of no known kind: " + line);
            }
        }
        return pieces;
    }
}
