import java.io.IOException;
import java.nio.file.Files;
import java.nio.file.Path;

/**
 * A part of the document, gone through from its first word to its last: each test names the words
 * that it is about, and those must be the next ones, so that no sentence can be left out. Run at the
 * project's root; without the document the tests are done all the same, only the words are not held
 * against it.
 */
final class Document {
    private static final Path FILE = Path.of("../shared/DOC.md");

    private final Due due;
    private final String text;
    private String where = "";
    private int at = 0;
    private boolean isOwed = false;
    private int askedBefore = 0;

    /** From a line on up to another one, which is no longer part of it; null stands for the end. */
    Document(Due due, String from, String to) {
        this.due = due;
        text = Files.exists(FILE) ? part(read(), from, to) : null;
        if (text == null) {
            System.out.println(FILE + " is not here: its words are not looked at");
        }
    }

    private static String read() {
        try {
            return Files.readString(FILE);
        } catch (IOException e) {
            throw new IllegalStateException("the document cannot be read");
        }
    }

    private static String part(String all, String from, String to) {
        int begin = all.indexOf(from);
        int end = to == null ? all.length() : all.indexOf(to);
        if (begin < 0 || end < begin) {
            throw new IllegalStateException("the document has no part from " + from + " to " + to);
        }
        return plain(all.substring(begin, end));
    }

    private static String plain(String words) {
        return words.replaceAll("\\s+", " ").strip();
    }

    /** A heading, or words that name no answer, change or exception. */
    void tells(String words) {
        settle();
        due.sentence("document", words);
        follow(words);
    }

    void heading(String words) {
        tells(words);
        where = words.replaceAll("^#+ ", "");
    }

    /** A sentence: what is asked from here to the next one belongs to it, and something must be asked. */
    void says(String words) {
        settle();
        due.sentence(where, words);
        follow(words);
        isOwed = true;
        askedBefore = due.asked();
    }

    /** The words up to the next place where these stand, which are passed, too. */
    String upTo(String words) {
        int end = text == null ? -1 : text.indexOf(words, at);
        if (end < 0) {
            return "";
        }
        String found = text.substring(at, end);
        at = end + words.length();
        return found.strip();
    }

    boolean isHere() {
        return text != null;
    }

    void end() {
        settle();
        due.sentence("document", "");
        if (text != null) {
            due.yes("the words of the document are left: " + text.substring(at), text.substring(at).isBlank());
        }
    }

    private void settle() {
        if (isOwed && due.asked() == askedBefore) {
            due.yes("something is asked about these words", false);
        }
        isOwed = false;
    }

    private void follow(String words) {
        if (text == null) {
            return;
        }
        String rest = text.substring(at);
        String ahead = rest.stripLeading();
        boolean isNext = ahead.startsWith(plain(words));
        if (!isNext) {
            due.yes("the document goes on with other words: "
                    + ahead.substring(0, Math.min(120, ahead.length())), false);
        } else {
            at += rest.length() - ahead.length() + plain(words).length();
        }
    }
}
