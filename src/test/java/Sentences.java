import java.io.IOException;
import java.nio.file.Files;
import java.nio.file.Path;

/** The document, sentence by sentence: which ones the tests have quoted, each with answers that hold to it. */
final class Sentences {
    private static final Path DOCUMENT = Path.of("../shared/DOC.md");
    private static final int PROMISES = 36;
    private static final String BEHIND_ALL = "## Not promised";

    private final String doc;
    private final boolean[] quoted;
    private String quote = "";
    private int answersAhead;

    Sentences() throws IOException {
        // Without the document there is nothing to hold the quotes against; the answers are tested all the same.
        String read = Files.isReadable(DOCUMENT) ? Files.readString(DOCUMENT) : "";
        doc = read.replaceAll("```[a-z]*", " ").replaceAll("\\s+", " ");
        quoted = new boolean[doc.length()];
    }

    /** The answers from here on are due by these words, which stand in that part of the document. */
    void says(String part, String words) {
        close();
        quote = part + ", \"" + words + "\": ";
        answersAhead = Due.answers();
        Due.by(quote);
        if (doc.isEmpty()) {
            return;
        }
        int from = doc.indexOf(words, start(part));
        boolean stands = from >= 0 && from + words.length() <= end(part);
        Due.is("stands in the document", stands ? 1 : 0, 1);
        answersAhead++;
        for (int i = 0; stands && i < words.length(); i++) {
            quoted[from + i] = true;
        }
    }

    private void close() {
        if (!quote.isEmpty() && Due.answers() == answersAhead) {
            Due.is("has no answer to hold to it", 0, 1);
        }
    }

    /** Each word of the document's parts must be in a quote. */
    void end() {
        close();
        Due.by("");
        if (doc.isEmpty()) {
            return;
        }
        String[] parts = {"1", "Terms", "2", "3", "4"};
        for (String part : parts) {
            checkQuoted(part);
        }
        for (int p = 1; p <= PROMISES; p++) {
            checkQuoted("Promise " + p);
        }
    }

    private void checkQuoted(String part) {
        StringBuilder left = new StringBuilder();
        // The face of a promise stands between two signs 96: it is no sentence.
        boolean inFace = false;
        for (int i = body(part); i < end(part); i++) {
            char c = doc.charAt(i);
            if (c == '`') {
                inFace = !inFace;
            } else if (!inFace && !quoted[i] && Character.isLetterOrDigit(c)) {
                left.append(c);
            }
        }
        Due.is(part + ": quoted by no test: " + left, left.length(), 0);
    }

    private static String head(String part) {
        if (part.startsWith("Promise ")) {
            return "## " + part + ":";
        }
        return Character.isDigit(part.charAt(0)) ? "==== " + part + "." : "## " + part;
    }

    private int start(String part) {
        return doc.indexOf(head(part));
    }

    /** Behind the head of a part, and its name. */
    private int body(String part) {
        int from = start(part) + head(part).length();
        return part.startsWith("Promise ") ? doc.indexOf('`', from) : from;
    }

    private int end(String part) {
        int from = start(part) + head(part).length();
        int end = doc.indexOf(BEHIND_ALL);
        String[] heads = {"## ", "==== "};
        for (String head : heads) {
            int next = doc.indexOf(head, from);
            end = next >= 0 && next < end ? next : end;
        }
        return end;
    }
}
