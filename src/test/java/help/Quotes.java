import java.io.IOException;
import java.io.UncheckedIOException;
import java.nio.file.Files;
import java.nio.file.Path;
import java.util.Map;
import java.util.TreeMap;

/**
 * Holds the quoted sentences against the document, where it is told by -Ddoc: each must stand in
 * its section, and what no test quotes is printed. Without -Ddoc nothing is looked at.
 */
final class Quotes {
    private static final String DOC = System.getProperty("doc", "");
    private static final Map<String, String> LEFT = new TreeMap<>();

    private Quotes() {
    }

    static void take(String section, String sentence) {
        if (DOC.isEmpty()) {
            return;
        }
        String quote = plain(sentence);
        Check.that("the document has in " + section + ": " + quote, section(section).contains(quote));
        String left = LEFT.computeIfAbsent(section, Quotes::section);
        LEFT.put(section, left.replace(quote, " | "));
    }

    static void printUnquoted() {
        LEFT.forEach((section, left) -> System.out.println(section + ", not quoted: " + left));
    }

    private static String plain(String text) {
        return text.replaceAll("\\s+", " ").strip();
    }

    /** "World" is a paragraph of the description, "Promise 2" a chapter. */
    private static String section(String name) {
        String doc;
        try {
            doc = Files.readString(Path.of(DOC));
        } catch (IOException wrong) {
            throw new UncheckedIOException(wrong);
        }
        boolean promise = name.startsWith("Promise ");
        int from = doc.indexOf(promise ? "## " + name + ":" : "\n" + name + ". ");
        int to = doc.indexOf(promise ? "\n## " : "\n\n", from + 1);
        return from < 0 ? "" : plain(doc.substring(from, to < 0 ? doc.length() : to));
    }
}
