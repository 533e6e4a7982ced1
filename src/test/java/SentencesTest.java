import java.io.IOException;
import java.nio.file.Files;
import java.nio.file.Path;
import java.util.List;

/**
 * The pieces of src/test/sentences.txt are the document, from its first line to
 * its last, and each piece that an answer can show names tests that exist and
 * are run. Whether these tests catch a broken piece is shown by Broken.
 */
public final class SentencesTest {
    private static final Due DUE = new Due();

    public static void main(String[] args) throws IOException {
        List<Sentences.Piece> pieces = Sentences.read();
        piecesAreTheDocument(pieces);
        for (Sentences.Piece piece : pieces) {
            boolean shown = !piece.tests().isEmpty() && !piece.changes().isEmpty();
            DUE.holds("tests and changes, or a reason: " + piece.text(), shown || !piece.reasons().isEmpty());
            for (String test : piece.tests()) {
                DUE.holds(test + " is run", isRun(test));
            }
        }
        DUE.end();
    }

    private static void piecesAreTheDocument(List<Sentences.Piece> pieces) throws IOException {
        String rest = Sentences.collapsed(Files.readString(Path.of("../shared/DOC.md")));
        for (Sentences.Piece piece : pieces) {
            boolean follows = rest.startsWith(piece.text());
            DUE.holds("in its place: " + piece.text(), follows);
            if (!follows) {
                return;
            }
            rest = rest.substring(piece.text().length()).trim();
        }
        DUE.holds("no piece for: " + rest, rest.isEmpty());
    }

    /** A test is told as Class.method, or as Class if its main method is meant. */
    private static boolean isRun(String test) throws IOException {
        String[] names = test.split("\\.");
        Path source = Path.of("src/test/java", names[0] + ".java");
        if (!names[0].endsWith("Test") || !Files.exists(source)) {
            return false;
        }
        String text = Files.readString(source);
        return names.length == 1
                || text.contains("\n        " + names[1] + "();\n")
                && text.contains("private static void " + names[1] + "() {");
    }
}
