/** Promises 5 to 7, and who is beside whom: man, cell, now. */
final class GaolBounds {
    private static final int BAD = CellNeighbours.BAD, NONE = CellNeighbours.NONE;
    private static final int[] BEYOND = {Integer.MIN_VALUE, -1, Integer.MAX_VALUE};

    private GaolBounds() {
    }

    static void run() {
        atFirst();
        beside();
        cellOfOneWhoIsFree();
        neighboursOfOneWhoIsFree();
        out();
        manBad();
        cell();
        cellBad();
        now();
        nowBad();
    }

    private static void atFirst() {
        Due.says("## Terms", "MONTH is 0 at first, all MEN are IN.");
        CellNeighbours none = new CellNeighbours();
        Due.due("now(0), new", none.now(0), 0);
        Due.due("now(1), new", none.now(1), 0);
        CellNeighbours x = Due.told("n9;m8 0 0 1;m7 0 0 1;m6 0 0 1;m2 0 0 1;m1 0 0 1;m0 0 0 1;");
        Due.due("now(0), told", x.now(0), 0);
        Due.due("now(1), told", x.now(1), 63);
        x.month();
        Due.due("now(1), all are free", x.now(1), 0);
        Due.reads(x, "m0 0 0 1;m1 0 0 1;");
        Due.due("now(0), told again", x.now(0), 0);
        Due.due("now(1), told again", x.now(1), 3);
    }

    private static void beside() {
        Due.says("## Terms", "NEIGHBOURS of one are those IN in the CELLS beside his.");
        // A row and no ring: the ends are not beside one another, and two cells on is not beside.
        CellNeighbours ends = Due.told("n3;m0 1 3 9;m2 1 3 9;");
        Due.due("man(0, 4), the other end", ends.man(0, 4), 0);
        Due.due("man(1, 4), the other end", ends.man(1, 4), 0);
        Due.due("brings(0), the other end", ends.brings(0), -1);
        CellNeighbours x = Due.told("n9;m0 0 0 9;m1 0 0 9;m7 0 0 9;m8 0 0 9;m6 0 0 1;");
        int[] want = {2, 1, 24, 4, 4};
        for (int m = 0; m < want.length; m++) {
            Due.due("man(" + m + ", 4)", x.man(m, 4), want[m]);
        }
        x.month();
        Due.due("man(2, 4), one of two is free", x.man(2, 4), 8);
        x.moves(3, 2);
        Due.due("man(2, 4), the other was moved", x.man(2, 4), 0);
        Due.due("man(1, 4), to beside him", x.man(1, 4), 9);
        CellNeighbours two = Due.told("n2;m0 0 0 9;m1 0 0 9;");
        Due.due("man(0, 4) of two", two.man(0, 4), 2);
        Due.due("man(1, 4) of two", two.man(1, 4), 1);
    }

    private static CellNeighbours middleIsFree() {
        CellNeighbours x = Due.told("n3;m0 0 0 9;m1 3 2 1;m2 0 0 9;");
        x.month();
        return x;
    }

    private static void cellOfOneWhoIsFree() {
        Due.says("## Promise 5:", "0 CELL (NONE: he is FREE)");
        CellNeighbours x = middleIsFree();
        Due.due("man(1, 0)", x.man(1, 0), NONE);
        Due.due("man(1, 1), his SOUND stays", x.man(1, 1), 3);
        Due.due("man(1, 2), his HARD stays", x.man(1, 2), 2);
        Due.due("man(1, 3), his YEARS", x.man(1, 3), 0);
        Due.due("man(0, 0)", x.man(0, 0), 0);
        x.undo();
        Due.due("man(1, 0), undone", x.man(1, 0), 1);
    }

    private static void neighboursOfOneWhoIsFree() {
        Due.says("## Promise 5:", "4 NEIGHBOURS (bits; 0: he is FREE)");
        CellNeighbours x = middleIsFree();
        Due.due("man(1, 4)", x.man(1, 4), 0);
        Due.due("man(0, 4)", x.man(0, 4), 0);
        x.undo();
        Due.due("man(1, 4), undone", x.man(1, 4), 5);
        Due.due("man(0, 4), undone", x.man(0, 4), 2);
        CellNeighbours six = Due.told("m0 0 0 9;m2 0 0 9;m4 0 0 9;m1 0 0 9;m3 0 0 9;m5 0 0 9;");
        Due.due("man(2, 4), the highest bits", six.man(2, 4), 16 + 32);
    }

    private static void out() {
        Due.says("## Promise 5:", "5 OUT (NONE)");
        CellNeighbours x = middleIsFree();
        Due.due("man(1, 5), free", x.man(1, 5), 0);
        Due.due("man(0, 5)", x.man(0, 5), 8);
        // Snoring beside one another keeps both.
        CellNeighbours held = Due.told("n2;m0 1 0 1;m1 1 0 1;");
        Due.due("man(0, 5), never", held.man(0, 5), NONE);
        Twins.changesNothing("man(0, 5)", Twins::rich, y -> y.man(0, 5), outOf(Twins.rich(), 0));
    }

    /** By months that do go by. */
    private static int outOf(CellNeighbours x, int m) {
        for (int months = 0; months <= 60; months++) {
            if (x.man(m, 0) == NONE) {
                return months;
            }
            x.month();
        }
        return NONE;
    }

    private static void manBad() {
        Due.says("## Promise 5:", "BAD");
        for (int m : new int[] {Integer.MIN_VALUE, -1, 5, 6, Integer.MAX_VALUE}) {
            for (int what = 0; what <= 5; what++) {
                int asked = what;
                Twins.changesNothing("man(" + m + ", " + what + ")", Twins::rich, x -> x.man(m, asked), BAD);
            }
        }
        for (int what : new int[] {Integer.MIN_VALUE, -1, 6, Integer.MAX_VALUE}) {
            Twins.changesNothing("man(0, " + what + ")", Twins::rich, x -> x.man(0, what), BAD);
            Twins.changesNothing("man(free, " + what + ")", Twins::rich, x -> x.man(Twins.FREED, what), BAD);
        }
    }

    private static void cell() {
        Due.says("## Promise 6:", "Who is in a CELL; NONE: it is empty.");
        CellNeighbours x = Twins.rich();
        // He of cell 4 is FREE, he of cell 6 was moved to cell 5.
        int[] want = {0, 1, 2, NONE, NONE, 4, NONE};
        for (int c = 0; c < want.length; c++) {
            int asked = c;
            Due.due("cell(" + c + ")", x.cell(c), want[c]);
            Twins.changesNothing("cell(" + c + ")", Twins::rich, y -> y.cell(asked), want[c]);
        }
    }

    private static void cellBad() {
        Due.says("## Promise 6:", "BAD");
        for (int c : new int[] {Integer.MIN_VALUE, -1, 7, 8, 9, Integer.MAX_VALUE}) {
            Twins.changesNothing("cell(" + c + ")", Twins::rich, x -> x.cell(c), BAD);
        }
        // More CELLS were told before: they are no more.
        CellNeighbours x = Due.told("n9;m8 0 0 9;");
        Due.reads(x, "n2;");
        Due.due("cell(2) of 2", x.cell(2), BAD);
        Due.due("cell(8) of 2", x.cell(8), BAD);
    }

    private static void now() {
        Due.says("## Promise 7:", "2 YEARS of all together, 3 LIE: how many YEARS, 4 how many may be UNDONE.");
        CellNeighbours x = Due.told("n9;m0 0 0 60;m1 0 0 60;m2 0 0 60;m3 0 0 60;m4 0 0 60;m5 0 0 60;");
        Due.due("now(2), the most", x.now(2), 360);
        Due.due("now(3)", x.now(3), 354);
        Due.due("now(4)", x.now(4), 0);
        CellNeighbours free = Due.told("m0 0 0 1;");
        Due.due("now(3), 0 behind the next month", free.now(3), 0);
        free.month();
        int[] want = {1, 0, 0, 0, 1};
        for (int what = 0; what < want.length; what++) {
            Due.due("now(" + what + "), all are free", free.now(what), want[what]);
        }
        for (int what = 0; what < want.length; what++) {
            int asked = what;
            Twins.changesNothing("now(" + what + ")", Twins::rich, y -> y.now(asked), Twins.rich().now(what));
        }
    }

    private static void nowBad() {
        Due.says("## Promise 7:", "BAD");
        for (int what : BEYOND) {
            Twins.changesNothing("now(" + what + ")", Twins::rich, x -> x.now(what), BAD);
        }
        Twins.changesNothing("now(5)", Twins::rich, x -> x.now(5), BAD);
    }
}
