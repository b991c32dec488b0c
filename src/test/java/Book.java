import java.io.IOException;
import java.io.UncheckedIOException;
import java.nio.file.Files;
import java.nio.file.Path;

/** The document, in which each sentence that a test names must stand. */
final class Book {
    private static final Path PLACE = Path.of("..", "shared", "DOC.md");

    private final String text;

    Book() {
        try {
            text = Files.readString(PLACE);
        } catch (IOException e) {
            throw new UncheckedIOException("run the tests from the project's folder", e);
        }
    }

    /** Whether the words stand in a promise, or in what is told ahead of all promises. */
    boolean says(int promise, String words) {
        String plain = plain(words);
        return plain(section(promise)).contains(plain) || plain(between("# DancedLock", "## Promise 1:")).contains(plain);
    }

    String face() {
        return between("```java", "```\n\n## Terms");
    }

    private String section(int promise) {
        return between("## Promise " + promise + ":", "\n## ");
    }

    private String between(String first, String last) {
        int from = text.indexOf(first);
        int to = from < 0 ? -1 : text.indexOf(last, from + first.length());
        return to < 0 ? "" : text.substring(from + first.length(), to);
    }

    private static String plain(String words) {
        return words.replaceAll("\\s+", " ").trim();
    }
}
