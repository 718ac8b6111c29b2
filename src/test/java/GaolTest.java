/** Promises 5 to 7: man, cell, now. */
public final class GaolTest {
    public static void main(String[] args) {
        ofMen();
        ofOneWhoIsFree();
        out();
        cells();
        now();
        Due.end("GaolTest");
    }

    private static void ofMen() {
        CellNeighbours x = Due.told("n9;m4 0 0 9;m3 1 1 10;m5 2 2 11;m8 4 3 60;m0 3 0 1;");
        int[][] want = {{4, 0, 0, 9, 6}, {3, 1, 1, 10, 1}, {5, 2, 2, 11, 1}, {8, 4, 3, 60, 0}, {0, 3, 0, 1, 0}};
        for (int m = 0; m < want.length; m++) {
            for (int what = 0; what < 5; what++) {
                Due.due("man(" + m + ", " + what + ")", x.man(m, what), want[m][what]);
            }
            Due.due("man(" + m + ", -1)", x.man(m, -1), CellNeighbours.BAD);
            Due.due("man(" + m + ", 6)", x.man(m, 6), CellNeighbours.BAD);
        }
        Due.due("man(5, 0)", x.man(5, 0), CellNeighbours.BAD);
        Due.due("man(-1, 0)", x.man(-1, 0), CellNeighbours.BAD);
        Due.due("man(least, least)", x.man(Integer.MIN_VALUE, Integer.MIN_VALUE), CellNeighbours.BAD);
        Due.due("man(most, most)", x.man(Integer.MAX_VALUE, Integer.MAX_VALUE), CellNeighbours.BAD);
    }

    private static void ofOneWhoIsFree() {
        CellNeighbours x = Due.told("n3;m0 4 2 1;m1 0 3 5;");
        // 1 more in each of the five months till his neighbour is FREE, then six alone.
        Due.due("man(0, 5), hard neighbour", x.man(0, 5), 11);
        x.feigns(0, 3);
        Due.due("month()", x.month(), 1);
        int[] want = {CellNeighbours.NONE, 3, 2, 0, 0, 0};
        for (int what = 0; what < 6; what++) {
            Due.due("man(0, " + what + "), free", x.man(0, what), want[what]);
        }
        Due.due("man(0, 6), free", x.man(0, 6), CellNeighbours.BAD);
        Due.due("man(1, 4), beside one who is free", x.man(1, 4), 0);
    }

    private static void out() {
        CellNeighbours x = Due.told("m0 0 0 60;m2 0 0 1;m4 1 0 60;m5 0 0 5;");
        Due.due("man(0, 5), 60 alone", x.man(0, 5), 60);
        Due.due("man(1, 5), 1 alone", x.man(1, 5), 1);
        // Beside him one of HARD 0 puts 1 for five months: he loses none in them.
        Due.due("man(2, 5), 60, held for five", x.man(2, 5), CellNeighbours.NONE);
        Due.due("man(3, 5)", x.man(3, 5), 5);
        Due.due("now(0), nothing is changed", x.now(0), 0);
        Due.due("now(2), nothing is changed", x.now(2), 126);
        CellNeighbours y = Due.told("m4 1 0 55;m5 0 0 5;");
        Due.due("man(0, 5), 55, held for five", y.man(0, 5), 60);
        CellNeighbours z = Due.told("m4 1 0 56;m5 0 0 5;");
        Due.due("man(0, 5), 56, held for five", z.man(0, 5), CellNeighbours.NONE);
    }

    private static void cells() {
        CellNeighbours x = Due.told("n4;m2 0 0 2;m0 0 0 1;");
        int[] want = {1, CellNeighbours.NONE, 0, CellNeighbours.NONE, CellNeighbours.BAD};
        for (int c = 0; c < want.length; c++) {
            Due.due("cell(" + c + ")", x.cell(c), want[c]);
        }
        Due.due("cell(-1)", x.cell(-1), CellNeighbours.BAD);
        x.month();
        Due.due("cell(0), he is free", x.cell(0), CellNeighbours.NONE);
        x.moves(0, 3);
        Due.due("cell(2), he was moved", x.cell(2), CellNeighbours.NONE);
        Due.due("cell(3), he was moved", x.cell(3), 0);
    }

    private static void now() {
        CellNeighbours x = Due.told("m0 0 0 2;m2 0 0 3;m4 0 0 1;");
        Due.due("now(-1)", x.now(-1), CellNeighbours.BAD);
        Due.due("now(5)", x.now(5), CellNeighbours.BAD);
        int[][] want = {{0, 7, 6, 3, 0}, {1, 3, 3, 1, 1}, {2, 2, 1, 0, 2}, {3, 0, 0, 0, 3}, {4, 0, 0, 0, 4}};
        for (int month = 0; month < want.length; month++) {
            for (int what = 0; what < 5; what++) {
                Due.due("now(" + what + ") in " + month, x.now(what), want[month][what]);
            }
            x.month();
        }
    }
}
