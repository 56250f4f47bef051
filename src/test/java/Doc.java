import java.io.IOException;
import java.io.UncheckedIOException;
import java.nio.file.Files;
import java.nio.file.Path;
import java.util.ArrayList;
import java.util.List;

/** The document's own words: a test names the sentence that it is of, and the sentence must be there. */
final class Doc {
    private static final String TEXT = load();
    private static final List<String> QUOTED = new ArrayList<>();

    private Doc() {
    }

    /** Where the document isn't at hand, the answers are tested without its words. */
    private static String load() {
        Path file = Path.of("../shared/DOC.md");
        if (!Files.exists(file)) {
            System.out.println("no ../shared/DOC.md: its sentences are not looked up");
            return "";
        }
        try {
            return flat(Files.readString(file));
        } catch (IOException gone) {
            throw new UncheckedIOException(gone);
        }
    }

    private static String flat(String text) {
        return text.replaceAll("\\s+", " ");
    }

    static void says(String words) {
        Check.sentence(words);
        Check.same("the document has this sentence", TEXT.isEmpty() || TEXT.contains(flat(words)), true);
        QUOTED.add(flat(words));
    }

    /** What is told behind this heading, up to the next one. */
    private static String part(String heading) {
        int from = TEXT.indexOf(heading);
        int to = TEXT.indexOf(" ## ", from + 1);
        return from < 0 ? "" : TEXT.substring(from, to < 0 ? TEXT.length() : to);
    }

    static void wantsQuoted(String heading) {
        Check.sentence(heading);
        String part = part(heading);
        Check.same("a sentence of it has a test", TEXT.isEmpty() || QUOTED.stream().anyMatch(part::contains), true);
    }
}
