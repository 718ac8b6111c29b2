/** Promises 8 to 11: month, moves, feigns, undo. */
public final class DoneTest {
    public static void main(String[] args) {
        figures();
        bothNeighbours();
        allAtOnce();
        bounds();
        moves();
        feigns();
        undo();
        tenAreKnown();
        Due.end("DoneTest");
    }

    private static void figures() {
        // By SOUND, then by HARD of the neighbour: what he puts.
        int[][] put = {{0, 0, 0, 0}, {1, 2, 3, 4}, {-3, -2, -1, 0}, {-1, -1, -1, -1}, {-1, 0, 1, 2}};
        for (int sound = 0; sound < 5; sound++) {
            for (int hard = 0; hard < 4; hard++) {
                CellNeighbours x = Due.told("m1 " + sound + " 3 30;m2 0 " + hard + " 30;");
                String call = "month(), " + sound + " beside " + hard;
                Due.due(call, x.month(), 0);
                Due.due(call + ", his years", x.man(0, 3), 29 + put[sound][hard]);
                Due.due(call + ", the other's", x.man(1, 3), 29);
                Due.due(call + ", now(0)", x.now(0), 1);
            }
        }
    }

    private static void bothNeighbours() {
        CellNeighbours x = Due.told("n9;m4 1 0 20;m3 0 1 20;m5 0 3 20;m7 2 0 20;m8 0 0 20;");
        x.month();
        Due.due("years by both", x.man(0, 3), 20 - 1 + 2 + 4);
        Due.due("years two cells on", x.man(3, 3), 20 - 1 - 3);
        Due.due("years at the end of the row", x.man(4, 3), 19);
    }

    private static void allAtOnce() {
        // The first is FREE in this month, and yet his neighbour hears him in it.
        CellNeighbours x = Due.told("m0 0 3 1;m1 1 3 5;m2 0 3 1;");
        Due.due("month()", x.month(), 2);
        Due.due("his years", x.man(1, 3), 12);
        Due.due("month()", x.month(), 0);
        Due.due("his years alone", x.man(1, 3), 11);
        Due.due("now(1)", x.now(1), 2);
        CellNeighbours none = new CellNeighbours();
        Due.due("month() without men", none.month(), 0);
        Due.due("now(0) without men", none.now(0), 1);
    }

    private static void bounds() {
        CellNeighbours x = Due.told("m0 1 3 60;m1 1 3 59;m3 2 0 3;m4 2 0 4;");
        Due.due("month(), too little", x.month(), 2);
        Due.due("60 at most", x.man(0, 3), 60);
        Due.due("59 and 3 more", x.man(1, 3), 60);
        Due.due("3 less 4", x.man(2, 3), 0);
        Due.due("4 less 4", x.man(3, 3), 0);
        CellNeighbours y = Due.told("m0 4 0 1;");
        for (int i = 0; i < 400; i++) {
            y.month();
        }
        Due.due("now(0) behind 400", y.now(0), 400);
        // Of one object 512 calls are promised; the limit of the months is looked at all the same.
        for (int i = 400; i < 999; i++) {
            Due.due("month()", y.month(), 0);
        }
        Due.due("month() at 999", y.month(), CellNeighbours.STATE);
        Due.due("now(0) at 999", y.now(0), 999);
    }

    private static void moves() {
        CellNeighbours x = Due.told("n4;m1 0 3 9;m2 1 0 1;");
        Due.due("moves(0, 3)", x.moves(0, 3), 1);
        Due.due("man(0, 0)", x.man(0, 0), 3);
        Due.due("cell(1)", x.cell(1), CellNeighbours.NONE);
        Due.due("cell(3)", x.cell(3), 0);
        Due.due("now(4)", x.now(4), 1);
        String till = Due.all(x);
        Due.due("moves(0, 3), his own", x.moves(0, 3), CellNeighbours.STATE);
        Due.due("moves(0, 2), taken", x.moves(0, 2), CellNeighbours.STATE);
        Due.due("moves(0, 4)", x.moves(0, 4), CellNeighbours.BAD);
        Due.due("moves(0, -1)", x.moves(0, -1), CellNeighbours.BAD);
        Due.due("moves(2, 0)", x.moves(2, 0), CellNeighbours.BAD);
        Due.due("moves(-1, 0)", x.moves(-1, 0), CellNeighbours.BAD);
        Due.holds("refused moves change nothing", till.equals(Due.all(x)));
        Due.due("moves(0, 0)", x.moves(0, 0), 3);
        Due.due("month()", x.month(), 1);
        Due.due("moves(1, 3), free", x.moves(1, 3), CellNeighbours.STATE);
        Due.due("moves(1, 4), free", x.moves(1, 4), CellNeighbours.BAD);
        Due.due("moves(0, 2), empty now", x.moves(0, 2), 0);
    }

    private static void feigns() {
        CellNeighbours x = Due.told("n4;m1 0 3 9;m2 4 0 1;");
        for (int sound = 1; sound < 5; sound++) {
            Due.due("feigns(0, " + sound + ")", x.feigns(0, sound), sound - 1);
            Due.due("man(0, 1)", x.man(0, 1), sound);
        }
        Due.due("feigns(0, 0)", x.feigns(0, 0), 4);
        String till = Due.all(x);
        Due.due("feigns(0, 0), it is so", x.feigns(0, 0), CellNeighbours.STATE);
        Due.due("feigns(0, 5)", x.feigns(0, 5), CellNeighbours.BAD);
        Due.due("feigns(0, -1)", x.feigns(0, -1), CellNeighbours.BAD);
        Due.due("feigns(2, 0)", x.feigns(2, 0), CellNeighbours.BAD);
        Due.due("feigns(-1, 0)", x.feigns(-1, 0), CellNeighbours.BAD);
        Due.holds("refused feigns change nothing", till.equals(Due.all(x)));
        x.feigns(1, 2);
        Due.due("month()", x.month(), 1);
        Due.due("feigns(1, 1), free", x.feigns(1, 1), CellNeighbours.STATE);
        Due.due("feigns(1, 5), free", x.feigns(1, 5), CellNeighbours.BAD);
    }

    private static void undo() {
        CellNeighbours x = Due.told("n4;m1 2 3 9;m2 2 0 1;");
        String first = Due.all(x);
        Due.due("undo() of nothing", x.undo(), CellNeighbours.STATE);
        x.month();
        String second = Due.all(x);
        Due.due("moves(0, 3)", x.moves(0, 3), 1);
        String third = Due.all(x);
        Due.due("feigns(0, 4)", x.feigns(0, 4), 2);
        x.feigns(0, 4);
        x.moves(1, 0);
        Due.due("now(4)", x.now(4), 3);
        Due.due("undo() of feigns", x.undo(), 2);
        Due.holds("feigns is undone", third.equals(Due.all(x)));
        Due.due("undo() of moves", x.undo(), 1);
        Due.holds("moves is undone", second.equals(Due.all(x)));
        Due.due("undo() of month", x.undo(), 0);
        Due.holds("month is undone, he is in again", first.equals(Due.all(x)));
        Due.due("cell(2)", x.cell(2), 1);
        Due.due("undo() of nothing more", x.undo(), CellNeighbours.STATE);
        x.rate(0, 0);
        x.keep(0);
        x.sees(0, 0);
        x.month();
        x.rate(0, 0);
        x.keep(0);
        x.sees(0, 0);
        x.undo();
        Due.due("trace() goes on", x.trace(), 2);
        Due.due("what is seen stays", x.count(3), 2);
        Due.due("the image stays", x.back(0), 1);
    }

    private static void tenAreKnown() {
        CellNeighbours x = Due.told("m0 0 0 50;");
        for (int i = 1; i <= 25; i++) {
            x.month();
            Due.due("now(4) behind " + i, x.now(4), Math.min(i, 10));
        }
        for (int i = 9; i >= 0; i--) {
            Due.due("undo()", x.undo(), i);
            Due.due("now(0)", x.now(0), 15 + i);
            Due.due("man(0, 3)", x.man(0, 3), 35 - i);
        }
        Due.due("undo(), lost", x.undo(), CellNeighbours.STATE);
        Due.due("now(0)", x.now(0), 15);
        x.month();
        Due.due("undo() behind it", x.undo(), 0);
    }
}
