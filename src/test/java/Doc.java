import java.io.IOException;
import java.io.UncheckedIOException;
import java.nio.charset.StandardCharsets;
import java.nio.file.Files;
import java.nio.file.Path;

/** The document, cut into what stands ahead of the promises (0) and the promises (by their numbers). */
final class Doc {
    static final int PROMISES = 43;
    private static final String[] PARTS = parts();

    private Doc() {
    }

    static String part(int promise) {
        return PARTS[promise];
    }

    private static String[] parts() {
        String[] parts = read().split("\n## Not promised")[0].split("\n## Promise ");
        if (parts.length != PROMISES + 1) {
            throw new IllegalStateException("the document has " + (parts.length - 1) + " promises");
        }
        for (int promise = 1; promise <= PROMISES; promise++) {
            if (!parts[promise].startsWith(promise + ": ")) {
                throw new IllegalStateException("promise " + promise + " is not where it should be");
            }
            parts[promise] = parts[promise].substring(parts[promise].indexOf('\n') + 1);
        }
        return parts;
    }

    private static String read() {
        try {
            return Files.readString(Path.of("../shared/DOC.md"), StandardCharsets.UTF_8);
        } catch (IOException e) {
            throw new UncheckedIOException(e);
        }
    }
}
