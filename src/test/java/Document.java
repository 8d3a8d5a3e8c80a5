import java.io.IOException;
import java.nio.file.Files;
import java.nio.file.Path;
import java.util.ArrayList;
import java.util.List;

/** The document's "Terms" and promises, and which of their words the tests have quoted. */
final class Document {
    private static final Path PLACE = Path.of("..", "shared", "DOC.md");
    private static final String TEXT = read();
    private static final boolean[] QUOTED = new boolean[TEXT.length()];

    private Document() {
    }

    static void quote(String sentence) {
        if (TEXT.isEmpty()) {
            return;
        }
        int at = TEXT.indexOf(sentence);
        if (at < 0) {
            Script.fault("the document does not say: " + sentence);
            return;
        }
        while (at >= 0) {
            for (int i = at; i < at + sentence.length(); i++) {
                QUOTED[i] = true;
            }
            at = TEXT.indexOf(sentence, at + 1);
        }
    }

    /** The pieces of the text that no test has quoted. */
    static List<String> unquoted() {
        List<String> pieces = new ArrayList<>();
        StringBuilder piece = new StringBuilder();
        for (int i = 0; i < TEXT.length(); i++) {
            if (!QUOTED[i]) {
                piece.append(TEXT.charAt(i));
            }
            if (QUOTED[i] || i == TEXT.length() - 1) {
                if (!piece.toString().isBlank()) {
                    pieces.add(piece.toString().strip());
                }
                piece.setLength(0);
            }
        }
        return pieces;
    }

    /** Without headings, the marks of the block, and the faces of the methods; in one line. */
    private static String read() {
        try {
            String text = Files.readString(PLACE);
            int from = text.indexOf("## Terms");
            int to = text.indexOf("## Not promised");
            return text.substring(from, to)
                .replaceAll("(?m)^## .*$", "")
                .replaceAll("(?m)^```.*$", "")
                .replaceAll("(?m)^`[^`]*`: ", "")
                .replaceAll("\\s+", " ");
        } catch (IOException e) {
            System.out.println("no document at " + PLACE + ": what the tests quote is not compared with it");
            return "";
        }
    }
}
