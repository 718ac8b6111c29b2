import java.io.IOException;
import java.io.UncheckedIOException;
import java.nio.file.Files;
import java.nio.file.Path;
import java.util.ArrayList;
import java.util.BitSet;
import java.util.List;
import java.util.regex.Matcher;
import java.util.regex.Pattern;

/** The document's own words: which of them a test stands for, and which boundary has none. */
final class Document {
    /** The words by which the document names a boundary. */
    private static final Pattern BOUNDARY = Pattern.compile("\\b(BAD|STATE|FULL|NONE|NO)\\b|\\btoo\\b|at most|at least"
        + "|at first|\\bonce\\b|\\b[Nn]othing\\b|\\blost\\b|\\bgone\\b|\\blowest\\b|\\.\\. ");

    private static final Path PLACE = Path.of("../shared/DOC.md");

    private final String words;
    private final BitSet quoted = new BitSet();

    Document() {
        words = read();
        if (words.isEmpty()) {
            System.out.println(PLACE + " is not there: no quotation is looked up");
        }
    }

    private static String read() {
        try {
            return Files.isReadable(PLACE) ? Files.readString(PLACE) : "";
        } catch (IOException e) {
            throw new UncheckedIOException(e);
        }
    }

    /** Marks words that stand under a heading ("## .."); false if they don't stand there. */
    boolean quotes(String heading, String quotation) {
        if (words.isEmpty()) {
            return true;
        }
        int from = words.indexOf("\n" + heading);
        int at = from < 0 ? -1 : words.indexOf(quotation, from);
        if (at < 0 || at > endOf(from)) {
            return false;
        }
        quoted.set(at, at + quotation.length());
        return true;
    }

    private int endOf(int heading) {
        int next = words.indexOf("\n## ", heading + 1);
        return next < 0 ? words.length() : next;
    }

    /** The boundaries behind "## Terms" that were not quoted, each with the words around it. */
    List<String> unquoted() {
        List<String> missing = new ArrayList<>();
        int end = words.indexOf("\n## Not promised");
        Matcher boundary = BOUNDARY.matcher(words);
        for (int from = Math.max(0, words.indexOf("## Terms")); boundary.find(from) && boundary.start() < end;
                from = boundary.end()) {
            if (!quoted.get(boundary.start())) {
                missing.add(words.substring(Math.max(0, boundary.start() - 40), Math.min(end, boundary.end() + 20)));
            }
        }
        return missing;
    }
}
