import java.io.IOException;
import java.nio.file.Files;
import java.nio.file.Path;

/**
 * A part of the document, sentence by sentence: each is quoted by a test of its own. A quote that the document
 * doesn't have, and words of it that no test quotes, are wrong answers too.
 */
final class Sentences {
    private static final Path DOCUMENT = Path.of("../shared/DOC.md");

    private final Due due;
    private final String part;
    private final boolean[] isQuoted;

    /** The part from one text on, up to another one. */
    Sentences(Due due, String first, String behind) throws IOException {
        this.due = due;
        String all = Files.readString(DOCUMENT).replace("```text", " ").replace("```", " ").replaceAll("\\s+", " ");
        int start = all.indexOf(first);
        int end = all.indexOf(behind, Math.max(0, start));
        due.is("the document has " + first, start >= 0 && end >= 0 ? 1 : 0, 1);
        part = start >= 0 && end >= 0 ? all.substring(start, end) : "";
        isQuoted = new boolean[part.length()];
    }

    /** Runs the test of a sentence; a wrong answer is told with the sentence that it breaks. */
    void say(String quote, Runnable test) {
        heading(quote);
        int answers = due.answers();
        int wrong = due.wrongAnswers();
        try {
            test.run();
        } catch (RuntimeException e) {
            due.is("threw " + e, 1, 0);
        }
        due.is("asked about: " + quote, due.answers() > answers ? 1 : 0, 1);
        if (due.wrongAnswers() > wrong) {
            System.out.println("NOT SO: " + quote);
        }
    }

    /** What the document says without a promise in it, or what stands in its head. */
    void heading(String quote) {
        int at = part.indexOf(quote);
        while (at >= 0 && isQuoted[at]) {
            at = part.indexOf(quote, at + 1);
        }
        due.is("the document says: " + quote, at >= 0 ? 1 : 0, 1);
        for (int i = Math.max(0, at); at >= 0 && i < at + quote.length(); i++) {
            isQuoted[i] = true;
        }
    }

    /** Looks for words that no test has quoted. */
    void end() {
        StringBuilder left = new StringBuilder();
        for (int i = 0; i < part.length(); i++) {
            left.append(isQuoted[i] ? ' ' : part.charAt(i));
        }
        String words = left.toString().replaceAll("\\s+", " ").trim();
        due.is("no test quotes: " + words, words.length(), 0);
    }
}
