/** Promises 1 to 4: a new object, type, clear, gaol; and count (25). */
public final class TextTest {
    public static void main(String[] args) {
        newObject();
        letters();
        goodTexts();
        faults();
        faultChangesNothing();
        readAnew();
        Due.end("TextTest");
    }

    private static void newObject() {
        CellNeighbours x = new CellNeighbours();
        Due.due("new count(0)", x.count(0), 6);
        Due.due("new count(1)", x.count(1), 0);
        Due.due("new count(2)", x.count(2), 1);
        Due.due("new count(3)", x.count(3), 0);
        Due.due("new count(4)", x.count(4), 0);
        Due.due("count(-1)", x.count(-1), CellNeighbours.BAD);
        Due.due("count(5)", x.count(5), CellNeighbours.BAD);
        for (int what = 0; what < 5; what++) {
            Due.due("new now(" + what + ")", x.now(what), 0);
        }
        Due.due("new cell(5)", x.cell(5), CellNeighbours.NONE);
        Due.due("new cell(6)", x.cell(6), CellNeighbours.BAD);
        Due.due("new man(0, 0)", x.man(0, 0), CellNeighbours.BAD);
        Due.due("new trace()", x.trace(), 0);
        Due.due("new back(0)", x.back(0), CellNeighbours.STATE);
        Due.due("new undo()", x.undo(), CellNeighbours.STATE);
    }

    private static void letters() {
        CellNeighbours x = new CellNeighbours();
        Due.due("clear() of nothing", x.clear(), 0);
        for (int i = 1; i <= 120; i++) {
            Due.due("type " + i, x.type(i % 256), i);
        }
        Due.due("type the 121st", x.type(65), CellNeighbours.FULL);
        Due.due("type(256), full", x.type(256), CellNeighbours.BAD);
        Due.due("type(-1), full", x.type(-1), CellNeighbours.BAD);
        Due.due("count(4), full", x.count(4), 120);
        Due.due("clear(), full", x.clear(), 120);
        Due.due("count(4), cleared", x.count(4), 0);
        Due.due("type(0)", x.type(0), 1);
        Due.due("type(255)", x.type(255), 2);
        Due.due("type(256)", x.type(256), CellNeighbours.BAD);
        Due.due("count(4)", x.count(4), 2);
        Due.due("clear()", x.clear(), 2);
    }

    private static void reads(String text, int want) {
        CellNeighbours x = new CellNeighbours();
        Due.due("gaol() of '" + text + "'", Due.reads(x, text), want);
    }

    private static void fault(String text, int place) {
        reads(text, -10 - place);
    }

    private static void goodTexts() {
        reads("", 0);
        reads("   ", 0);
        reads("n2;", 1);
        reads("n9;", 1);
        reads("l1;", 1);
        reads("l3;", 1);
        reads("n9;l3;m8 4 3 60;", 3);
        reads("m0 0 0 1;l2;m5 4 3 60;", 3);
        reads("  n  3 ; m 2   1 0 10 ;l2 ;  ", 3);
        reads("m0 0 0 1;m1 0 0 1;m2 0 0 1;m3 0 0 1;m4 0 0 1;m5 0 0 1;", 6);
        reads("n9;m0 0 0 1;m1 0 0 1;m2 0 0 1;m3 0 0 1;m4 0 0 1;m5 0 0 1;l2;", 8);

        CellNeighbours x = Due.told("n3;m2 1 3 10;l2;");
        Due.due("count(0)", x.count(0), 3);
        Due.due("count(1)", x.count(1), 1);
        Due.due("count(2)", x.count(2), 2);
        Due.due("count(4)", x.count(4), 0);
        Due.due("man(0, 0)", x.man(0, 0), 2);
        Due.due("man(0, 1)", x.man(0, 1), 1);
        Due.due("man(0, 2)", x.man(0, 2), 3);
        Due.due("man(0, 3)", x.man(0, 3), 10);
    }

    private static void faults() {
        fault("n1;", 1);
        fault("n10;", 1);
        fault("n 0;", 2);
        fault("n02;", 1);
        fault("n100;", 1);
        fault("n;", 1);
        fault("nn", 1);
        fault("n", 1);
        fault("n2", 2);
        fault("n2  ", 4);
        fault("n2 3;", 3);
        fault(" ;", 1);
        fault("5", 0);
        fault("x", 0);
        fault("N2;", 0);
        fault("n2;;", 3);
        fault("n2;n3;", 3);
        fault("l1;n3;", 3);
        fault("m0 0 0 1;n3;", 9);
        fault("l0;", 1);
        fault("l4;", 1);
        fault("l1;l1;", 3);
        fault("l1;m0 0 0 1; l2;", 13);
        fault("l 1 l", 4);
        fault("m6 0 0 1;", 1);
        fault("n9;m9 0 0 1;", 4);
        fault("n2;m2 0 0 1;", 4);
        fault("m0 5 0 1;", 3);
        fault("m0 0 4 1;", 5);
        fault("m0 0 0 0;", 7);
        fault("m0 0 0 61;", 7);
        fault("m0 0 0 00;", 7);
        fault("m0 0 0 01;", 7);
        fault("m00 0 0 1;", 1);
        fault("m0 0 0 001;", 7);
        fault("m0 0 0 1000000000000000001;", 7);
        fault("m0 0 0 4294967297;", 7);
        fault("m0 0 0", 6);
        fault("m0 0 0 ", 7);
        fault("m0 0 0;", 6);
        fault("m0 0 0 1 1;", 9);
        fault("m0 0 0 1", 8);
        fault("m", 1);
        fault("m0;0 0 1;", 2);
        fault("m0 0 0 1m", 8);
        fault("m0 0 0 1;m0 0 0 1;", 10);
        fault("m3 0 0 1;m 3 9 9 99;", 11);
        fault("m0-", 2);
        fault("m-1 0 0 1;", 1);
        fault("m0 0 0 1;?m1 0 0 1;", 9);
        fault("m0 0 0 1;m1 0 0 1;m2 0 0 1;m3 0 0 1;m4 0 0 1;m5 0 0 1; m", 55);
        fault("n9;m0 0 0 1;m1 0 0 1;m2 0 0 1;m3 0 0 1;m4 0 0 1;m5 0 0 1;m6 0 0 1;", 57);
        fault("n2;\tl1;", 3);
        // The first of several, whatever sort it is.
        fault("n1;???", 1);
        fault("n2? n1;", 2);
        fault("m0 9 999 ?;", 3);

        CellNeighbours x = new CellNeighbours();
        for (int i = 0; i < 120; i++) {
            x.type('0' + i % 10);
        }
        Due.due("gaol() of 120 digits", x.gaol(), -10);
        x.clear();
        Due.types(x, " ".repeat(119) + "l");
        Due.due("gaol() of l at the end", x.gaol(), -130);
        x.clear();
        x.type(0);
        Due.due("gaol() of the letter 0", x.gaol(), -10);
        x.clear();
        x.type(255);
        Due.due("gaol() of the letter 255", x.gaol(), -10);
    }

    private static void faultChangesNothing() {
        CellNeighbours x = Due.told("n7;l2;m0 1 3 10;m1 2 0 6;");
        x.month();
        x.keep(1);
        x.sees(1, 2);
        x.rate(5, 1);
        String till = Due.all(x);
        Due.types(x, "n5;l3;m0 0 0 9;m0 0 0 9;");
        Due.due("gaol() of a cell taken twice", x.gaol(), -10 - 16);
        Due.due("count(4) behind a fault", x.count(4), 24);
        Due.due("gaol() again", x.gaol(), -10 - 16);
        Due.due("clear() behind a fault", x.clear(), 24);
        Due.holds("all is as it was behind a fault", till.equals(Due.all(x)));
        Due.due("back(1) behind a fault", x.back(1), 1);
    }

    private static void readAnew() {
        CellNeighbours x = Due.told("n7;l2;m0 1 3 10;m1 2 0 6;");
        x.rate(1, 0);
        x.month();
        x.keep(0);
        x.keep(1);
        x.sees(1, 2);
        Due.due("now(4)", x.now(4), 1);
        Due.due("gaol() anew", Due.reads(x, "m3 4 2 7;"), 1);
        Due.due("count(0) anew", x.count(0), 6);
        Due.due("count(1) anew", x.count(1), 1);
        Due.due("count(2) anew", x.count(2), 1);
        Due.due("count(3) anew", x.count(3), 0);
        Due.due("count(4) anew", x.count(4), 0);
        Due.due("now(0) anew", x.now(0), 0);
        Due.due("now(1) anew", x.now(1), 1);
        Due.due("now(2) anew", x.now(2), 7);
        Due.due("now(4) anew", x.now(4), 0);
        Due.due("cell(0) anew", x.cell(0), CellNeighbours.NONE);
        Due.due("cell(3) anew", x.cell(3), 0);
        Due.due("undo() anew", x.undo(), CellNeighbours.STATE);
        Due.due("back(0) anew", x.back(0), CellNeighbours.STATE);
        Due.due("back(1) anew", x.back(1), CellNeighbours.STATE);
        Due.due("hards() anew", x.hards(), 15);
        Due.due("trace() anew", x.trace(), 11);
        Due.due("gaol() of nothing", x.gaol(), 0);
        Due.due("count(1) of nothing", x.count(1), 0);
        Due.due("cell(3) of nothing", x.cell(3), CellNeighbours.NONE);
    }
}
