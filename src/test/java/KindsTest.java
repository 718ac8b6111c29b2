/** Promises 22 to 24 and 26: rate, keep, back, trace. */
public final class KindsTest {
    public static void main(String[] args) {
        rates();
        images();
        backUndoesNothing();
        Due.end("KindsTest");
    }

    private static void rates() {
        CellNeighbours x = Due.told("m0 0 0 1;m5 3 2 9;m3 0 3 40;");
        x.month();
        x.month();
        int[] added = {1, 11, 101, 1011, 10101, 100001};
        int[][] want = {{0, 0, 0, 0, 0, 2}, {7, 9, 2, 18, 3, 9}, {38, 41, 35, 82, 37, 40}};
        long due = 0;
        for (int m = 0; m < 3; m++) {
            for (int kind = 0; kind < 6; kind++) {
                Due.due("rate(" + kind + ", " + m + ")", x.rate(kind, m), want[m][kind]);
                due += added[kind];
                Due.due("trace()", x.trace(), due);
            }
        }
        Due.due("rate(6, 0)", x.rate(6, 0), CellNeighbours.NO);
        Due.due("rate(-1, 0)", x.rate(-1, 0), CellNeighbours.NO);
        Due.due("rate(0, 3)", x.rate(0, 3), CellNeighbours.NO);
        Due.due("rate(0, -1)", x.rate(0, -1), CellNeighbours.NO);
        Due.due("trace(), refused", x.trace(), due);
        x.undo();
        Due.due("trace(), undone", x.trace(), due);
        CellNeighbours y = Due.told("n9;m8 0 0 1;");
        Due.due("rate(2, 0), below 0", y.rate(2, 0), -7);
        Due.due("rate(4, 0), below 0", y.rate(4, 0), -7);
        y.month();
        Due.due("rate(2, 0), free", y.rate(2, 0), 0);
        Due.due("rate(3, 0), free", y.rate(3, 0), 0);
    }

    private static void images() {
        CellNeighbours x = Due.told("n4;l2;m1 2 3 9;m2 2 0 1;");
        Due.due("back(0), none", x.back(0), CellNeighbours.STATE);
        Due.due("back(1), none", x.back(1), CellNeighbours.STATE);
        Due.due("keep(-1)", x.keep(-1), CellNeighbours.BAD);
        Due.due("keep(2)", x.keep(2), CellNeighbours.BAD);
        Due.due("back(-1)", x.back(-1), CellNeighbours.BAD);
        Due.due("back(2)", x.back(2), CellNeighbours.BAD);
        String first = Due.all(x);
        Due.due("keep(0)", x.keep(0), 0);
        Due.holds("keep changes nothing", first.equals(Due.all(x)));
        Due.due("back(1), none still", x.back(1), CellNeighbours.STATE);
        x.month();
        x.moves(0, 3);
        x.feigns(0, 4);
        x.month();
        Due.due("now(4)", x.now(4), 4);
        Due.due("keep(1)", x.keep(1), 2);
        Due.due("now(4), kept", x.now(4), 4);
        x.month();
        Due.due("back(0)", x.back(0), 0);
        Due.holds("all is as it was first", first.equals(Due.all(x)));
        Due.due("back(1)", x.back(1), 2);
        Due.due("man(0, 0)", x.man(0, 0), 3);
        Due.due("man(0, 1)", x.man(0, 1), 4);
        Due.due("man(1, 0)", x.man(1, 0), CellNeighbours.NONE);
        Due.due("cell(2)", x.cell(2), CellNeighbours.NONE);
        Due.due("back(0), again", x.back(0), 0);
        Due.due("keep(1), over it", x.keep(1), 0);
        x.month();
        Due.due("back(1), as kept last", x.back(1), 0);
    }

    private static void backUndoesNothing() {
        CellNeighbours x = Due.told("n4;m1 2 3 9;");
        x.keep(0);
        x.month();
        x.sees(1, 1);
        x.rate(1, 0);
        Due.types(x, "n");
        Due.due("back(0)", x.back(0), 0);
        Due.due("now(4) behind back()", x.now(4), 0);
        Due.due("undo() behind back()", x.undo(), CellNeighbours.STATE);
        Due.due("count(3) behind back()", x.count(3), 1);
        Due.due("count(4) behind back()", x.count(4), 1);
        Due.due("trace() behind back()", x.trace(), 11);
        x.month();
        x.month();
        Due.due("back(1) is refused", x.back(1), CellNeighbours.STATE);
        Due.due("now(4), refused", x.now(4), 2);
        Due.due("undo()", x.undo(), 1);
    }
}
