/** Section 1 of the terms, and promises 1 to 4 and 25: the text and what may stand in it. */
final class TextBounds {
    private static final int BAD = CellNeighbours.BAD, FULL = CellNeighbours.FULL, NONE = CellNeighbours.NONE;
    private static final String WHAT = "## What it is", TERMS = "## Terms";
    private static final String SIX_MEN = "n9;m0 0 0 1;m1 0 0 1;m2 0 0 1;m3 0 0 1;m4 0 0 1;m5 0 0 1;";

    private TextBounds() {
    }

    static void run() {
        cells();
        sixCellsAtFirst();
        sixMen();
        unlikeCells();
        soundAndHard();
        years();
        loud();
        letters();
        blanks();
        blanksBetweenNumbers();
        items();
        cellsAreToldFirst();
        nextOfTheMen();
        loudOnce();
        firstToken();
        cantStandThere();
        strangeTokens();
        endsTooEarly();
        newObject();
        type();
        typeBad();
        typeFull();
        clear();
        gaol();
        gaolFault();
        count();
        countBad();
    }

    private static void reads(String text, int items) {
        Due.due("gaol() of '" + text + "'", Due.reads(new CellNeighbours(), text), items);
    }

    private static void fault(String text, int place) {
        reads(text, -10 - place);
    }

    // ---- section 1

    private static void cells() {
        Due.says(WHAT, "CELLS 0 .. as many as are told less 1 (2 ..");
        for (int n = 2; n <= 9; n++) {
            CellNeighbours x = Due.told("n" + n + ";m" + (n - 1) + " 0 0 1;");
            Due.due("count(0) of " + n, x.count(0), n);
            Due.due("man(0, 0), in the last of " + n, x.man(0, 0), n - 1);
            Due.due("cell(" + (n - 1) + ") of " + n, x.cell(n - 1), 0);
            Due.due("cell(" + n + ") of " + n, x.cell(n), BAD);
            fault("n" + n + ";m" + n + " 0 0 1;", 4);
        }
        fault("n0;", 1);
        fault("n1;", 1);
        fault("n10;", 1);
        fault("n99;", 1);
    }

    private static void sixCellsAtFirst() {
        Due.says(TERMS, "9; 6 at first) in a row");
        CellNeighbours x = new CellNeighbours();
        Due.due("count(0)", x.count(0), 6);
        Due.due("cell(5)", x.cell(5), NONE);
        Due.due("cell(6)", x.cell(6), BAD);
        reads("m5 0 0 1;", 1);
        fault("m6 0 0 1;", 1);
    }

    private static void sixMen() {
        Due.says(TERMS, "MEN 0 .. (6 at most)");
        CellNeighbours none = Due.told("n9;");
        Due.due("count(1), none", none.count(1), 0);
        Due.due("man(0, 0), none", none.man(0, 0), BAD);
        CellNeighbours six = Due.told(SIX_MEN);
        Due.due("count(1), six", six.count(1), 6);
        Due.due("man(5, 0), six", six.man(5, 0), 5);
        Due.due("man(6, 0), six", six.man(6, 0), BAD);
        fault(SIX_MEN + "m6 0 0 1;", SIX_MEN.length());
    }

    private static void unlikeCells() {
        Due.says(TERMS, "CELL (unlike ones)");
        reads("m0 0 0 1;m1 0 0 1;", 2);
        fault("m0 0 0 1;m0 0 0 1;", 10);
        fault("m0 0 0 1;m1 0 0 1;m0 0 0 1;", 19);
        fault("n2;m1 0 0 1;m0 0 0 1;m0 0 0 1;", 22);
    }

    private static void soundAndHard() {
        Due.says(TERMS, "SOUND, HARD (0 .. 3)");
        for (int sound = 0; sound <= 4; sound++) {
            Due.due("man(0, 1)", Due.told("m0 " + sound + " 0 1;").man(0, 1), sound);
        }
        fault("m0 5 0 1;", 3);
        for (int hard = 0; hard <= 3; hard++) {
            Due.due("man(0, 2)", Due.told("m0 0 " + hard + " 1;").man(0, 2), hard);
        }
        fault("m0 0 4 1;", 5);
    }

    private static void years() {
        Due.says(TERMS, "YEARS (1 .. 60)");
        Due.due("man(0, 3), least", Due.told("m0 0 0 1;").man(0, 3), 1);
        Due.due("man(0, 3), most", Due.told("m0 0 0 60;").man(0, 3), 60);
        fault("m0 0 0 0;", 7);
        fault("m0 0 0 61;", 7);
        fault("m0 0 0 99;", 7);
    }

    private static void loud() {
        Due.says(TERMS, "LOUD (1 .. 3; 1 at first)");
        Due.due("count(2) at first", new CellNeighbours().count(2), 1);
        Due.due("count(2), not told", Due.told("n9;").count(2), 1);
        for (int loud = 1; loud <= 3; loud++) {
            Due.due("count(2)", Due.told("l" + loud + ";").count(2), loud);
        }
        fault("l0;", 1);
        fault("l4;", 1);
    }

    private static void letters() {
        Due.says(TERMS, "They are a text (120 letters at most), told letter by letter");
        CellNeighbours x = new CellNeighbours();
        Due.types(x, " ".repeat(117) + "l2;");
        Due.due("gaol() of 120 letters", x.gaol(), 1);
        Due.due("count(2) by the last three", x.count(2), 2);
        CellNeighbours y = new CellNeighbours();
        Due.types(y, " ".repeat(118) + "l2;");
        Due.due("count(4), the 121st did not come", y.count(4), 120);
        Due.due("gaol() without it", y.gaol(), -10 - 120);
    }

    private static void blanks() {
        Due.says(TERMS, "blanks (32), any number, ahead of, between, behind TOKENS");
        reads(" ", 0);
        reads(" ".repeat(120), 0);
        reads("   n   3   ;   l   2   ;   m   0   1   2   3   ;   ", 3);
        reads(" ".repeat(50) + "n" + " ".repeat(50) + "3;", 1);
        // No other letter is a blank.
        for (int letter : new int[] {0, 9, 10, 13, 31, 33, 127, 160, 255}) {
            fault("n3;" + (char) letter, 3);
        }
    }

    private static void blanksBetweenNumbers() {
        Due.says(TERMS, "(needed only between two NUMBERS)");
        reads("n3;l2;m0 1 2 3;m1 0 0 60;", 4);
        // Without one it is another number, with one inside it is two.
        fault("m0 0 01;", 5);
        fault("m12 0 1;", 1);
        fault("n1 0;", 1);
        fault("n5 0;", 3);
        fault("m0 0 0 6 0;", 9);
    }

    private static void items() {
        Due.says(TERMS, "ITEMS (none, too), each ended by ;");
        reads("", 0);
        fault(";", 0);
        fault("n3;;", 3);
        fault("n3", 2);
        fault("n3 l2;", 3);
        fault("l2 m0 0 0 1;", 3);
        fault("m0 0 0 1 l2;", 9);
    }

    private static void cellsAreToldFirst() {
        Due.says(TERMS, "n N (CELLS; the first of all, if it is told)");
        reads("n3;l2;", 2);
        reads("l2;", 1);
        fault("l2;n3;", 3);
        fault("m0 0 0 1;n3;", 9);
        fault("n3;n3;", 3);
        fault("n;", 1);
        fault("n3 4;", 3);
    }

    private static void nextOfTheMen() {
        Due.says(TERMS, "m C S H Y (the next of the MEN)");
        CellNeighbours x = Due.told("m4 1 2 3;l2;m0 4 3 60;");
        for (int what = 0; what < 4; what++) {
            Due.due("man(0, " + what + ")", x.man(0, what), new int[] {4, 1, 2, 3}[what]);
            Due.due("man(1, " + what + ")", x.man(1, what), new int[] {0, 4, 3, 60}[what]);
        }
        fault("m;", 1);
        fault("m0;", 2);
        fault("m0 0;", 4);
        fault("m0 0 0;", 6);
        fault("m0 0 0 1 1;", 9);
    }

    private static void loudOnce() {
        Due.says(TERMS, "l N (LOUD; once at most)");
        reads("l2;", 1);
        reads("m0 0 0 1;l2;", 2);
        fault("l2;l2;", 3);
        fault("l1;m0 0 0 1;l1;", 12);
        fault("l;", 1);
        fault("l2 2;", 3);
    }

    private static void firstToken() {
        Due.says(TERMS, "FAULT: the place of the first letter of the first TOKEN that can't stand there");
        fault("   ;", 3);
        fault("  60;", 2);
        fault("m0 0 0   61 ;", 9);
        fault("mm", 1);
        fault("nl", 1);
        fault("n;3", 1);
        // The first of several, of whatever sort.
        fault("n1;?", 1);
        fault("n3;?n1;", 3);
        fault("m9 9 9 99;", 1);
        fault("m0 9 999 ?;", 3);
    }

    private static void cantStandThere() {
        Due.says(TERMS, "(n behind another ITEM, a seventh m, l again, a CELL that one has already,"
            + " a NUMBER beyond what it may be, too)");
        fault("l1; n3;", 4);
        // The seventh m itself, whatever comes behind it, or nothing.
        fault(SIX_MEN + " m", SIX_MEN.length() + 1);
        fault(SIX_MEN + "m?", SIX_MEN.length());
        reads(SIX_MEN + "l1;", 8);
        fault("l1; l2;", 4);
        fault("m3 0 0 1;m 3 9 9 99;", 11);
        fault("n2;m0 0 0 1;m1 0 0 1;m1 0 0 1;", 22);
        fault("n2;m 2 0 0 1;", 5);
    }

    private static void strangeTokens() {
        Due.says(TERMS, "of any other letter, a NUMBER above 99 or with a 0 ahead of others, that TOKEN's");
        fault("N3;", 0);
        fault("n-3;", 1);
        fault("n3,", 2);
        fault("m0 0 0 1; x", 10);
        fault("m0 0 0 100;", 7);
        fault("m0 0 0 4294967297;", 7);
        fault("n" + "9".repeat(119), 1);
        fault("n03;", 1);
        fault("l01;", 1);
        fault("m00 0 0 1;", 1);
        fault("m0 0 0 060;", 7);
        fault("m0 0 0 1; 00", 10);
        reads("m0 0 0 10;", 1);
    }

    private static void endsTooEarly() {
        Due.says(TERMS, "the text's length, if it ends too early");
        fault("n", 1);
        fault("n3", 2);
        fault("n3   ", 5);
        fault("l", 1);
        fault("m0 0 0 1", 8);
        fault("m0 0 0 ", 7);
        fault("n3;m0", 5);
        fault(" ".repeat(119) + "m", 120);
    }

    // ---- promises 1 to 4, 25

    private static void newObject() {
        Due.says("## Promise 1:", "As told; no MEN.");
        CellNeighbours x = new CellNeighbours();
        int[] counts = {6, 0, 1, 0, 0};
        for (int what = 0; what < 5; what++) {
            Due.due("count(" + what + ")", x.count(what), counts[what]);
            Due.due("now(" + what + ")", x.now(what), 0);
        }
        Due.due("man(0, 0)", x.man(0, 0), BAD);
        Due.due("trace()", x.trace(), 0);
        Due.due("hards()", x.hards(), 15);
        Due.due("undo()", x.undo(), CellNeighbours.STATE);
        Due.due("back(0)", x.back(0), CellNeighbours.STATE);
        Due.due("back(1)", x.back(1), CellNeighbours.STATE);
        Due.due("gaol()", x.gaol(), 0);
    }

    private static void type() {
        Due.says("## Promise 2:", "A letter (0 .. 255) comes to THE TEXT: how many it has.");
        CellNeighbours x = new CellNeighbours();
        Due.due("type(0)", x.type(0), 1);
        Due.due("type(255)", x.type(255), 2);
        Due.due("count(4)", x.count(4), 2);
        // They have come, and in that order: the fault is the first one's.
        Due.due("gaol()", x.gaol(), -10);
        CellNeighbours y = new CellNeighbours();
        for (int i = 1; i <= 120; i++) {
            Due.due("type, the " + i + "th", y.type(' '), i);
        }
    }

    private static void typeBad() {
        Due.says("## Promise 2:", "BAD");
        for (int letter : new int[] {-1, 256, Integer.MIN_VALUE, Integer.MAX_VALUE, 256 + ';'}) {
            Twins.changesNothing("type(" + letter + ")", Twins::rich, x -> x.type(letter), BAD);
        }
    }

    private static CellNeighbours full() {
        CellNeighbours x = Due.told("n3;m0 0 0 9;");
        x.month();
        Due.types(x, " ".repeat(119) + "l");
        return x;
    }

    private static void typeFull() {
        Due.says("## Promise 2:", "FULL");
        Twins.changesNothing("type(';'), full", TextBounds::full, x -> x.type(';'), FULL);
        Twins.changesNothing("type(0), full", TextBounds::full, x -> x.type(0), FULL);
        CellNeighbours x = full();
        x.clear();
        Due.due("type(';') behind clear()", x.type(';'), 1);
    }

    private static void clear() {
        Due.says("## Promise 3:", "THE TEXT is empty: how many letters it had.");
        CellNeighbours x = new CellNeighbours();
        Due.due("clear() of none", x.clear(), 0);
        Due.types(x, "x".repeat(120));
        Due.due("clear() of 120", x.clear(), 120);
        Due.due("count(4)", x.count(4), 0);
        Due.due("clear() again", x.clear(), 0);
        Due.types(x, "l3;");
        Due.due("gaol() of what was told behind it", x.gaol(), 1);
    }

    private static void gaol() {
        Due.says("## Promise 4:", "THE TEXT tells all anew, and is empty then: how many ITEMS.");
        CellNeighbours x = Twins.rich();
        Due.types(x, "0 0 9;");
        Due.due("gaol()", x.gaol(), 2);
        Due.due("count(4)", x.count(4), 0);
        Due.due("count(0)", x.count(0), 3);
        Due.due("count(1)", x.count(1), 1);
        Due.due("gaol() of nothing", x.gaol(), 0);
        Due.due("count(0) of nothing", x.count(0), 6);
        Due.due("count(1) of nothing", x.count(1), 0);
        Due.due("gaol(), the most ITEMS", Due.reads(x, SIX_MEN + "l3;"), 8);
    }

    private static CellNeighbours told(String text) {
        CellNeighbours x = Twins.rich();
        x.clear();
        Due.types(x, text);
        return x;
    }

    private static void gaolFault() {
        Due.says("## Promise 4:", "-10 less FAULT: nothing changes (THE TEXT stays, too).");
        // Each is a fault behind ITEMS that would change much.
        String head = "n9;l3;m8 4 3 60;";
        String[] tails = {"m", "n3;", "l1;", "m8 0 0 1;", "m9 0 0 1;", "m0 0 0 0;", "?", ";", "m0 0 0 100;"};
        for (String tail : tails) {
            CellNeighbours x = told(head + tail);
            int fault = x.gaol();
            Due.holds("gaol() of '" + head + tail + "' is at fault behind its head", fault <= -10 - head.length());
            Due.due("count(4) behind a fault", x.count(4), head.length() + tail.length());
            Twins.changesNothing("gaol() of '" + head + tail + "'", () -> told(head + tail), y -> y.gaol(), fault);
        }
        fault("?", 0);
        CellNeighbours x = told("n9;?");
        Due.due("gaol()", x.gaol(), -13);
        x.clear();
        Due.due("count(0), as it was", x.count(0), 7);
    }

    private static void count() {
        Due.says("## Promise 25:", "0 CELLS, 1 MEN, 2 LOUD, 3 SEEN, 4 letters of THE TEXT.");
        int[] want = {7, 5, 2, 2, 6};
        for (int what = 0; what < 5; what++) {
            int asked = what;
            Twins.changesNothing("count(" + what + ")", Twins::rich, x -> x.count(asked), want[what]);
        }
        // Who is FREE is one of the MEN still.
        CellNeighbours x = Due.told("m0 0 0 1;");
        x.month();
        Due.due("count(1), free", x.count(1), 1);
    }

    private static void countBad() {
        Due.says("## Promise 25:", "BAD");
        for (int what : new int[] {-1, 5, Integer.MIN_VALUE, Integer.MAX_VALUE}) {
            Twins.changesNothing("count(" + what + ")", Twins::rich, x -> x.count(what), BAD);
        }
    }
}
