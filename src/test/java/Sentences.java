import java.io.IOException;
import java.nio.file.Files;
import java.nio.file.Path;

/**
 * The document between two of its headings, read sentence by sentence: each is quoted, in its order,
 * by the test that tries it, so that none is left without one.
 */
final class Sentences {
    private static final Path DOCUMENT = Path.of("../shared/DOC.md");
    private static final int NO_PROMISE = 0;

    private static final int SHOWN = 80;

    private final Due due;
    /** Until a quotation is another than what the document says: behind that no place is known. */
    private boolean isRead;
    private String left = "";
    private String quoted = "";
    private int asked = 1;

    Sentences(Due due, String from, String to) throws IOException {
        this.due = due;
        isRead = Files.exists(DOCUMENT);
        if (isRead) {
            String document = Files.readString(DOCUMENT) + "\n" + to;
            int begin = document.indexOf(from);
            left = plain(document.substring(begin, document.indexOf(to, begin)));
        }
    }

    /** Without headings, fences, the numbers of parts, and the calls whose names stand ahead of their promise. */
    private static String plain(String part) {
        return part.replaceAll("(?m)^#.*$", "").replaceAll("(?m)^```.*$", "").replaceAll("======== \\d ", "")
                .replaceAll("(?m)^`[^`]*`: ", "").replaceAll("\\s+", " ").trim();
    }

    /** The next sentence of the document; what is asked behind it tries it. */
    void said(String sentence) {
        next(sentence);
        asked = 0;
    }

    /** The next sentence, which promises nothing that could be tried. */
    void free(String sentence) {
        next(sentence);
        asked = 1;
    }

    private void next(String sentence) {
        endOfSentence();
        quoted = sentence;
        if (isRead && !left.startsWith(sentence)) {
            due.is(NO_PROMISE, "quoted: " + sentence + " where the document says: " + shown(), 0, 1);
            isRead = false;
        }
        if (isRead) {
            left = left.substring(sentence.length()).trim();
        }
    }

    void is(int promise, String call, long got, long want) {
        asked++;
        due.is(promise, call, got, want);
    }

    /** That something is so. */
    void so(int promise, String what, boolean isSo) {
        is(promise, what, isSo ? 1 : 0, 1);
    }

    private void endOfSentence() {
        due.is(NO_PROMISE, "is there a test of: " + quoted, asked > 0 ? 1 : 0, 1);
    }

    void end() {
        endOfSentence();
        due.is(NO_PROMISE, "bytes that are left without a test: " + shown(), left.length(), 0);
        due.end();
    }

    private String shown() {
        return left.length() > SHOWN ? left.substring(0, SHOWN) + " .." : left;
    }
}
