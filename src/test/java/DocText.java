import java.io.IOException;
import java.nio.file.Files;
import java.nio.file.Path;

/**
 * The text of ../shared/DOC.md, so that a test can tell which of its sentences it looks at. Where there is no such file, the
 * sentences are not looked up.
 */
final class DocText {
    private static final String[] HEADS = {"## What it is", "1. Words, documents", "2. Requests",
        "3. Nodes, copies, logs", "4. Beats", "5. Joining, quitting", "6. Questions", "7. Light, samples",
        "The constructor and the methods follow"};
    private static final String TEXT = plain(read());

    private DocText() {
    }

    private static String read() {
        try {
            return Files.readString(Path.of("../shared/DOC.md"));
        } catch (IOException e) {
            System.out.println("../shared/DOC.md is not there: the sentences that tests quote are not looked up in it");
            return "";
        }
    }

    private static String plain(String text) {
        return text.replaceAll("\\s+", " ");
    }

    private static String between(String from, String to) {
        int start = TEXT.indexOf(from);
        int end = TEXT.indexOf(to, start + 1);
        return start < 0 ? "" : TEXT.substring(start, end < 0 ? TEXT.length() : end);
    }

    /** The Java that the document writes for the public face. */
    static String face() {
        return between("## The public face", "## Description");
    }

    /** Section 0 is what stands ahead of section 1. */
    static boolean isInSection(int number, String sentence) {
        return TEXT.isEmpty() || between(HEADS[number], HEADS[number + 1]).contains(plain(sentence));
    }

    static boolean isInPromise(int number, String sentence) {
        return TEXT.isEmpty() || between("## Promise " + number + ":", "## ").contains(plain(sentence));
    }
}
