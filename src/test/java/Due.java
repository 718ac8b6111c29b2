import java.util.Locale;

/** What the tests share: answers held against those that are due, and gaols told by a text. */
final class Due {
    private static int asked = 0;
    private static int wrong = 0;

    private Due() {
    }

    static void due(String call, long got, long want) {
        asked++;
        if (got != want) {
            wrong++;
            System.out.println(call + " answered " + got + ", due is " + want);
        }
    }

    static void holds(String what, boolean isSo) {
        asked++;
        if (!isSo) {
            wrong++;
            System.out.println(what + " does not hold");
        }
    }

    static void types(CellNeighbours x, String text) {
        for (int i = 0; i < text.length(); i++) {
            x.type(text.charAt(i));
        }
    }

    /** The answer of gaol() to a text that is told from its beginning. */
    static int reads(CellNeighbours x, String text) {
        x.clear();
        types(x, text);
        return x.gaol();
    }

    static CellNeighbours told(String text) {
        CellNeighbours x = new CellNeighbours();
        int items = reads(x, text);
        holds("'" + text + "' is read", items >= 0);
        return x;
    }

    /** All that is NOW and can be asked without a change, as one text. */
    static String all(CellNeighbours x) {
        StringBuilder all = new StringBuilder();
        for (int what = 0; what < 5; what++) {
            all.append(x.count(what)).append(' ').append(x.now(what)).append(' ');
        }
        for (int m = 0; m < x.count(1); m++) {
            for (int what = 0; what < 6; what++) {
                all.append(x.man(m, what)).append(' ');
            }
        }
        for (int c = 0; c < x.count(0); c++) {
            all.append(x.cell(c)).append(' ');
        }
        return all.append(x.hards()).append(' ').append(x.trace()).toString();
    }

    static void end(String test) {
        System.out.println(String.format(Locale.ROOT, "%s: %d answers, %d wrong", test, asked, wrong));
        if (wrong != 0 || asked == 0) {
            System.exit(1);
        }
    }
}
