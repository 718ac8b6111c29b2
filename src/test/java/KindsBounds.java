/** Section 4 of the terms, and promises 22 to 24 and 26: rate, keep, back, trace. */
final class KindsBounds {
    private static final int BAD = CellNeighbours.BAD, STATE = CellNeighbours.STATE, NONE = CellNeighbours.NONE;
    private static final int NO = CellNeighbours.NO;
    private static final String TERMS = "## Terms";
    private static final int[] NO_IMAGES = {Integer.MIN_VALUE, -1, 2, Integer.MAX_VALUE};
    private static final int[] ADDED = {1, 11, 101, 1011, 10101, 100001};

    private KindsBounds() {
    }

    static void run() {
        traceOfBodies();
        cellOfOneWhoIsFree();
        kinds();
        imagesKeepNow();
        nothingElse();
        nothingBehindBack();
        asAtFirst();
        nothingSeenAnew();
        imagesAreGone();
        nothingUndoneAnew();
        traceGoesOn();
        rate();
        rateNo();
        keep();
        keepBad();
        back();
        backBad();
        backState();
        trace();
    }

    // ---- section 4

    private static void traceOfBodies() {
        Due.says(TERMS, "(numbers in brackets are added to THE TRACE, 0 at first,"
            + " as often as rate() asks that body: each once;");
        Due.due("trace() at first", new CellNeighbours().trace(), 0);
        for (int kind = 0; kind < 6; kind++) {
            CellNeighbours x = Due.told("m0 0 0 9;");
            x.rate(kind, 0);
            Due.due("trace() behind rate(" + kind + ", 0)", x.trace(), ADDED[kind]);
            x.rate(kind, 0);
            Due.due("trace() behind it again", x.trace(), 2L * ADDED[kind]);
        }
    }

    private static void cellOfOneWhoIsFree() {
        Due.says(TERMS, "BOY up less his CELL (0, if he is FREE) (100).");
        CellNeighbours x = Due.told("n9;m8 0 0 1;m0 0 0 60;m4 0 0 2;");
        Due.due("rate(2, 0), the last cell", x.rate(2, 0), 1 - 8);
        Due.due("rate(2, 1), the first cell", x.rate(2, 1), 60);
        Due.due("rate(4, 2), a pear", x.rate(4, 2), 2 - 4 + 2);
        x.month();
        x.month();
        Due.due("rate(2, 0), free", x.rate(2, 0), 0);
        Due.due("rate(4, 2), a pear, free", x.rate(4, 2), 2);
    }

    private static void kinds() {
        Due.says(TERMS, "KINDS of MEN are over one another");
        CellNeighbours x = Due.told("m1 0 1 5;m3 0 3 60;m5 0 2 9;");
        x.month();
        int[][] want = {{4, 5, 3, 10, 3, 5}, {59, 62, 56, 124, 57, 60}, {8, 10, 3, 20, 5, 9}};
        for (int m = 0; m < 3; m++) {
            for (int kind = 0; kind < 6; kind++) {
                Due.due("rate(" + kind + ", " + m + ")", x.rate(kind, m), want[m][kind]);
            }
        }
        CellNeighbours late = DoneBounds.atMonth(999);
        Due.due("rate(5, 0), the last month", late.rate(5, 0), 60 + 999);
    }

    private static String brief(CellNeighbours x) {
        StringBuilder seen = new StringBuilder();
        for (int m = 0; m < x.count(1); m++) {
            seen.append(x.man(m, 0)).append(' ').append(x.man(m, 1)).append(' ').append(x.man(m, 3)).append(' ');
        }
        for (int c = 0; c < x.count(0); c++) {
            seen.append(x.cell(c)).append(' ');
        }
        return seen.append(x.now(0)).append(' ').append(x.now(1)).toString();
    }

    private static void imagesKeepNow() {
        Due.says(TERMS, "IMAGES 0, 1 keep NOW (MONTH, YEARS, CELLS, SOUNDS, who is IN)");
        for (int image = 0; image < 2; image++) {
            CellNeighbours x = Twins.rich();
            String kept = brief(x);
            x.keep(image);
            x.month();
            x.moves(0, 3);
            x.feigns(4, 4);
            x.month();
            x.back(image);
            Due.holds("back(" + image + ") brings " + kept + ", it brought " + brief(x), kept.equals(brief(x)));
        }
        // One FREE in the image is FREE again, and the other way round.
        CellNeighbours x = Due.told("m0 0 0 1;");
        x.keep(0);
        x.month();
        x.keep(1);
        x.back(0);
        Due.due("now(1), he is IN", x.now(1), 1);
        x.back(1);
        Due.due("now(1), he is FREE", x.now(1), 0);
        Due.due("cell(0), he is FREE", x.cell(0), NONE);
    }

    private static void nothingElse() {
        Due.says(TERMS, "nothing else");
        CellNeighbours x = Twins.rich();
        x.keep(0);
        x.sees(0, 0);
        x.rate(0, 0);
        x.type(' ');
        x.month();
        x.keep(1);
        x.back(0);
        Due.due("count(3), what is SEEN stays", x.count(3), 3);
        Due.due("count(4), the text stays", x.count(4), 7);
        Due.due("trace() stays", x.trace(), 1011 + 1);
        Due.due("count(2), LOUD stays", x.count(2), 2);
        Due.due("back(1), the other image stays", x.back(1), 3);
        Due.due("back(0), this one, too", x.back(0), 2);
    }

    private static void nothingBehindBack() {
        Due.says(TERMS, "(nothing can be UNDONE behind back())");
        CellNeighbours x = Twins.rich();
        Due.due("now(4)", x.now(4), 4);
        Due.due("back(1)", x.back(1), 2);
        Due.due("now(4) behind back()", x.now(4), 0);
        Due.due("undo() behind back()", x.undo(), STATE);
        Due.due("now(0), still", x.now(0), 2);
        x.month();
        Due.due("undo() of what was done then", x.undo(), 0);
        Due.due("now(0)", x.now(0), 2);
        Due.due("undo(), no more", x.undo(), STATE);
        // Of an image just kept, too.
        CellNeighbours same = Twins.rich();
        same.keep(0);
        same.back(0);
        Due.due("now(4) behind keep() and back()", same.now(4), 0);
    }

    private static void asAtFirst() {
        Due.says(TERMS, "(Read anew: as told (what is not told as at first)");
        CellNeighbours x = Twins.rich();
        Due.due("gaol()", Due.reads(x, "m5 0 0 9;"), 1);
        int[] counts = {6, 1, 1, 0, 0};
        int[] nows = {0, 1, 9, 8, 0};
        for (int what = 0; what < 5; what++) {
            Due.due("count(" + what + ")", x.count(what), counts[what]);
            Due.due("now(" + what + ")", x.now(what), nows[what]);
        }
        for (int c = 0; c < 6; c++) {
            Due.due("cell(" + c + ")", x.cell(c), c == 5 ? 0 : NONE);
        }
        Due.due("man(1, 0), no more", x.man(1, 0), BAD);
        CellNeighbours y = Twins.rich();
        Due.due("gaol() of nothing", Due.reads(y, ""), 0);
        Due.holds("it is as a new one, but for the trace",
            Due.all(y).equals(Due.all(new CellNeighbours()).replaceAll("0$", "1011")));
    }

    private static void nothingSeenAnew() {
        Due.says(TERMS, "nothing SEEN");
        CellNeighbours x = HardBounds.full();
        Due.reads(x, "n7;");
        Due.due("count(3)", x.count(3), 0);
        Due.due("hards()", x.hards(), 15);
        Due.due("sees(1, 4)", x.sees(1, 4), 1);
    }

    private static void imagesAreGone() {
        Due.says(TERMS, "IMAGES are gone");
        CellNeighbours x = Twins.rich();
        Due.reads(x, "n7;");
        Due.due("back(0)", x.back(0), STATE);
        Due.due("back(1)", x.back(1), STATE);
        Due.due("keep(1)", x.keep(1), 0);
        Due.due("back(0), the other one was kept", x.back(0), STATE);
        Due.due("back(1)", x.back(1), 0);
        // Not by a text that is at fault.
        CellNeighbours y = Twins.rich();
        Due.reads(y, "n7;?");
        Due.due("back(0) behind a fault", y.back(0), 0);
        Due.due("back(1) behind a fault", y.back(1), 2);
    }

    private static void nothingUndoneAnew() {
        Due.says(TERMS, "nothing can be UNDONE; THE TRACE");
        CellNeighbours x = Twins.rich();
        Due.reads(x, "n7;");
        Due.due("now(4)", x.now(4), 0);
        Due.due("undo()", x.undo(), STATE);
        Due.due("count(1), still", x.count(1), 0);
        x.month();
        Due.due("undo() of what was done then", x.undo(), 0);
    }

    private static void traceGoesOn() {
        Due.says(TERMS, "THE TRACE goes on, as behind undo(), back().)");
        CellNeighbours x = Twins.rich();
        Due.due("trace()", x.trace(), 1011);
        x.undo();
        Due.due("trace() behind undo()", x.trace(), 1011);
        x.rate(0, 0);
        x.back(0);
        Due.due("trace() behind back()", x.trace(), 1012);
        x.rate(0, 0);
        Due.reads(x, "m0 0 0 1;");
        Due.due("trace(), read anew", x.trace(), 1013);
        x.rate(0, 0);
        Due.due("trace() goes on", x.trace(), 1014);
    }

    // ---- promises 22 to 24, 26

    private static void rate() {
        Due.says("## Promise 22:", "RATE.");
        // Only the trace is another behind it.
        CellNeighbours x = Twins.rich();
        String till = Due.all(x);
        Due.due("rate(5, 0)", x.rate(5, 0), 10 + 2);
        Due.holds("the trace alone has changed", Due.all(x).equals(till.replaceAll("1011$", "101012")));
        // Below 0 an answer may be: -1 is no refusal here.
        CellNeighbours y = Due.told("n9;m8 0 0 7;");
        Due.due("rate(2, 0), below 0", y.rate(2, 0), -1);
        Due.due("trace(), it was asked", y.trace(), 101);
        Due.due("rate(3, free)", Twins.rich().rate(3, Twins.FREED), 2);
    }

    private static void rateNo() {
        Due.says("## Promise 22:", "NO: BAD.");
        for (int kind : new int[] {Integer.MIN_VALUE, -1, 6, Integer.MAX_VALUE}) {
            Twins.changesNothing("rate(" + kind + ", 0)", Twins::rich, x -> x.rate(kind, 0), NO);
        }
        for (int m : new int[] {Integer.MIN_VALUE, -1, 5, 6, Integer.MAX_VALUE}) {
            for (int kind = 0; kind < 6; kind++) {
                int asked = kind;
                Twins.changesNothing("rate(" + kind + ", " + m + ")", Twins::rich, x -> x.rate(asked, m), NO);
            }
        }
    }

    private static void keep() {
        Due.says("## Promise 23:", "An IMAGE is kept: MONTH.");
        CellNeighbours x = Due.told("m0 0 0 9;");
        Due.due("keep(0) at 0", x.keep(0), 0);
        x.month();
        Due.due("keep(1) at 1", x.keep(1), 1);
        x.month();
        // Over the one that was kept.
        Due.due("keep(0) at 2", x.keep(0), 2);
        Due.due("now(4), as it was", x.now(4), 2);
        x.month();
        Due.due("back(0), as kept last", x.back(0), 2);
        Due.due("man(0, 3)", x.man(0, 3), 7);
        Due.due("back(1), as kept", x.back(1), 1);
    }

    private static void keepBad() {
        Due.says("## Promise 23:", "BAD");
        for (int image : NO_IMAGES) {
            Twins.changesNothing("keep(" + image + ")", Twins::rich, x -> x.keep(image), BAD);
        }
    }

    private static void back() {
        Due.says("## Promise 24:", "All of that becomes as an IMAGE has it: MONTH.");
        CellNeighbours x = Twins.rich();
        Due.due("back(0)", x.back(0), 0);
        Due.due("now(0)", x.now(0), 0);
        Due.due("back(0) again, it stays kept", x.back(0), 0);
        Due.due("back(1)", x.back(1), 2);
        Due.due("now(0)", x.now(0), 2);
        // What is done behind back() does not change the image.
        x.moves(0, 3);
        x.feigns(0, 4);
        x.month();
        Due.due("back(1) again", x.back(1), 2);
        Due.due("man(0, 0)", x.man(0, 0), 0);
        Due.due("man(0, 1)", x.man(0, 1), 1);
    }

    private static void backBad() {
        Due.says("## Promise 24:", "BAD");
        for (int image : NO_IMAGES) {
            Twins.changesNothing("back(" + image + ")", Twins::rich, x -> x.back(image), BAD);
        }
    }

    private static CellNeighbours onlyKept(int image) {
        CellNeighbours x = Due.told("n3;m0 0 0 9;");
        x.month();
        x.keep(image);
        x.month();
        return x;
    }

    private static void backState() {
        Due.says("## Promise 24:", "STATE: none was kept.");
        Twins.changesNothing("back(0), new", CellNeighbours::new, x -> x.back(0), STATE);
        Twins.changesNothing("back(1), new", CellNeighbours::new, x -> x.back(1), STATE);
        Twins.changesNothing("back(0), the other was kept", () -> onlyKept(1), x -> x.back(0), STATE);
        Twins.changesNothing("back(1), the other was kept", () -> onlyKept(0), x -> x.back(1), STATE);
    }

    private static void trace() {
        Due.says("## Promise 26:", "THE TRACE.");
        Twins.changesNothing("trace()", Twins::rich, x -> x.trace(), 1011);
        CellNeighbours x = Due.told("m0 0 0 9;");
        for (int i = 0; i < 400; i++) {
            x.rate(5, 0);
        }
        Due.due("trace() behind 400 warders", x.trace(), 40000400);
    }
}
