import java.io.IOException;
import java.nio.charset.StandardCharsets;
import java.nio.file.Files;
import java.nio.file.Path;
import java.util.BitSet;

/** A stretch of the document, whose sentences a test goes through: it tells which of them have no test. */
final class Sentences {
    private final Check check;
    // Null where the document is not at hand: the tests of its sentences run all the same.
    private final String stretch;
    private final BitSet said = new BitSet();

    /** The stretch from the first words to the last ones, these too. */
    Sentences(Check check, String first, String last) throws IOException {
        this.check = check;
        Path path = Path.of(System.getProperty("root", "."), "..", "shared", "DOC.md");
        if (!Files.exists(path)) {
            System.out.println(path + " is not there: the sentences are not looked up");
            stretch = null;
            return;
        }
        String all = oneLine(Files.readString(path, StandardCharsets.UTF_8));
        int from = all.indexOf(first);
        int to = all.indexOf(last, Math.max(from, 0));
        check.due("\"" + first + "\" .. \"" + last + "\" stands in the document", from >= 0 && to >= 0 ? 1 : 0, 1);
        stretch = from >= 0 && to >= 0 ? all.substring(from, to + last.length()) : "";
    }

    /** Without headings, fences and the public face. */
    private static String oneLine(String document) {
        return document.replaceAll("(?s)```java.*?```", " ").replaceAll("(?m)^(#.*|```.*|.*======== 1 THE TEXT has bytes.*)$", " ")
                .replaceAll("======== ", " ").replaceAll("`", "").replaceAll("\\s+", " ");
    }

    /** What follows tests this sentence: it has to stand in the document, word by word. */
    void says(String sentence) {
        if (stretch == null) {
            return;
        }
        int at = stretch.indexOf(sentence);
        check.due("\"" + sentence + "\" stands in the document", at >= 0 ? 1 : 0, 1);
        if (at >= 0) {
            said.set(at, at + sentence.length());
        }
    }

    /** No sentence of the stretch may be left over without a test. */
    void nothingIsLeft() {
        if (stretch == null) {
            return;
        }
        StringBuilder left = new StringBuilder();
        for (int i = 0; i < stretch.length(); i++) {
            left.append(said.get(i) ? ' ' : stretch.charAt(i));
        }
        check.due("what has no test", left.toString().replaceAll("\\s+", " ").trim(), "");
    }
}
