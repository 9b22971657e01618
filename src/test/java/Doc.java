import java.io.IOException;
import java.io.UncheckedIOException;
import java.nio.file.Files;
import java.nio.file.Path;

/** Ties tests to the document: each names its sentence word for word, so that none is remembered wrongly. */
final class Doc {
    private static final Path PATH = Path.of("../shared/DOC.md");
    /** A checkout may stand without the document: then the sentences can't be looked up, but what they ask can. */
    private static final boolean IS_HERE = Files.isReadable(PATH);
    private static final String TEXT = IS_HERE ? flat(read()) : "";

    private Doc() {
    }

    /** What follows tests this part of the document. */
    static void says(String words) {
        Due.under("");
        Due.is("the document says \"" + words + "\"", true, !IS_HERE || TEXT.contains(flat(words)));
        Due.under("\"" + words + "\": ");
    }

    private static String read() {
        try {
            return Files.readString(PATH);
        } catch (IOException e) {
            throw new UncheckedIOException(e);
        }
    }

    private static String flat(String text) {
        return text.replaceAll("\\s+", " ").trim();
    }
}
