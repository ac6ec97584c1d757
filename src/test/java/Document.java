import java.io.IOException;
import java.io.UncheckedIOException;
import java.nio.file.Files;
import java.nio.file.Path;

/** The text of ../shared/DOC.md, for the tests that hold to its very words. */
final class Document {
    static final String TEXT = read("../shared/DOC.md");
    /** One line, without the signs that set names apart. */
    private static final String PLAIN = TEXT.replace("`", "").replaceAll("\\s+", " ");

    private Document() {
    }

    static String read(String file) {
        try {
            return Files.readString(Path.of(file));
        } catch (IOException fault) {
            throw new UncheckedIOException(file, fault);
        }
    }

    /**
     * Whether the document says these words, in this order: " .. " leaves words out, and the name of a method or of a
     * constant, with a colon, may stand before what the document says of it.
     */
    static boolean says(String words) {
        String name = words.contains(": ") ? words.substring(0, words.indexOf(": ")) : "";
        boolean named = name.matches("\\w+") && TEXT.contains("int " + name);
        return inOrder(words) || (named && inOrder(words.substring(name.length() + 2)));
    }

    private static boolean inOrder(String words) {
        int from = 0;
        for (String part : words.split(" \\.\\. ")) {
            int found = PLAIN.indexOf(part, from);
            if (found < 0) {
                return false;
            }
            from = found + part.length();
        }
        return true;
    }
}
