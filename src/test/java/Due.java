import java.util.List;
import java.util.Locale;

/** What the tests share: answers held against those that are due, and gaols told by a text. */
final class Due {
    private static int asked = 0;
    private static int wrong = 0;
    private static Document document = null;
    private static String sentence = "";
    private static int sentences = 0;
    private static int askedBefore = 0;

    private Due() {
    }

    /** A test of its own begins: of words that stand in the document under that heading ("## .."). */
    static void says(String heading, String quotation) {
        endSentence();
        if (document == null) {
            document = new Document();
        }
        sentences++;
        sentence = heading + " \"" + quotation + "\": ";
        if (!document.quotes(heading, quotation)) {
            wrong++;
            System.out.println(sentence + "the document does not say so");
        }
        askedBefore = asked;
    }

    private static void endSentence() {
        if (sentences > 0 && asked == askedBefore) {
            wrong++;
            System.out.println(sentence + "nothing is asked");
        }
    }

    /** No words by which the document names a boundary may be without a test. */
    static void allIsQuoted() {
        List<String> missing = document.unquoted();
        for (String words : missing) {
            System.out.println("no test quotes: .." + words + "..");
        }
        wrong += missing.size();
    }

    static void due(String call, long got, long want) {
        asked++;
        if (got != want) {
            wrong++;
            System.out.println(sentence + call + " answered " + got + ", due is " + want);
        }
    }

    static void holds(String what, boolean isSo) {
        asked++;
        if (!isSo) {
            wrong++;
            System.out.println(sentence + what + " does not hold");
        }
    }

    static void types(CellNeighbours x, String text) {
        for (int i = 0; i < text.length(); i++) {
            x.type(text.charAt(i));
        }
    }

    /** The answer of gaol() to a text that is told from its beginning. */
    static int reads(CellNeighbours x, String text) {
        x.clear();
        types(x, text);
        return x.gaol();
    }

    static CellNeighbours told(String text) {
        CellNeighbours x = new CellNeighbours();
        int items = reads(x, text);
        holds("'" + text + "' is read", items >= 0);
        return x;
    }

    /** LIE: its YEARS, then the CELLS of the MEN. */
    static void liesAre(CellNeighbours x, int years, int... cells) {
        due("now(3)", x.now(3), years);
        for (int m = 0; m < cells.length; m++) {
            due("lies(" + m + ")", x.lies(m), cells[m]);
        }
    }

    static void oddsAre(CellNeighbours x, int m, int tenths, int n, int upper, int lower) {
        String call = "odds(" + m + ", " + tenths + ", " + n + ", ";
        due(call + "0)", x.odds(m, tenths, n, 0), upper);
        due(call + "1)", x.odds(m, tenths, n, 1), lower);
    }

    /** All that is NOW and can be asked without a change, as one text. */
    static String all(CellNeighbours x) {
        StringBuilder all = new StringBuilder();
        for (int what = 0; what < 5; what++) {
            all.append(x.count(what)).append(' ').append(x.now(what)).append(' ');
        }
        for (int m = 0; m < x.count(1); m++) {
            for (int what = 0; what < 6; what++) {
                all.append(x.man(m, what)).append(' ');
            }
        }
        for (int c = 0; c < x.count(0); c++) {
            all.append(x.cell(c)).append(' ');
        }
        return all.append(x.hards()).append(' ').append(x.trace()).toString();
    }

    static void end(String test) {
        endSentence();
        String of = sentences > 0 ? sentences + " sentences, " : "";
        System.out.println(String.format(Locale.ROOT, "%s: %s%d answers, %d wrong", test, of, asked, wrong));
        if (wrong != 0 || asked == 0) {
            System.exit(1);
        }
    }
}
