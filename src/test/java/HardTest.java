/** Promises 18 to 21: sees, forget, hards, next. */
public final class HardTest {
    public static void main(String[] args) {
        oneEach();
        several();
        limits();
        Due.end("HardTest");
    }

    private static void oneEach() {
        int[][] put = {{0, 0, 0, 0}, {1, 2, 3, 4}, {-3, -2, -1, 0}, {-1, -1, -1, -1}, {-1, 0, 1, 2}};
        for (int sound = 0; sound < 5; sound++) {
            for (int v = -3; v <= 4; v++) {
                int bits = 0;
                for (int hard = 0; hard < 4; hard++) {
                    bits |= put[sound][hard] == v ? 1 << hard : 0;
                }
                CellNeighbours x = new CellNeighbours();
                String call = "sees(" + sound + ", " + v + ")";
                Due.due(call, x.sees(sound, v), 1);
                Due.due(call + " hards()", x.hards(), bits);
                Due.due(call + " next()", x.next(), Integer.bitCount(bits) > 1 ? 1 : CellNeighbours.NONE);
            }
        }
    }

    private static void several() {
        CellNeighbours x = new CellNeighbours();
        Due.due("hards() of nothing", x.hards(), 15);
        Due.due("next() of nothing", x.next(), 1);
        Due.due("forget() of nothing", x.forget(), 0);
        Due.due("sees(0, 0)", x.sees(0, 0), 1);
        Due.due("sees(3, -1)", x.sees(3, -1), 2);
        Due.due("hards()", x.hards(), 15);
        Due.due("sees(4, 1)", x.sees(4, 1), 3);
        Due.due("hards()", x.hards(), 4);
        Due.due("sees(2, -1)", x.sees(2, -1), 4);
        Due.due("hards()", x.hards(), 4);
        Due.due("sees(1, 4)", x.sees(1, 4), 5);
        Due.due("hards(), none can be", x.hards(), 0);
        Due.due("next(), none can be", x.next(), CellNeighbours.NONE);
        Due.due("count(3)", x.count(3), 5);
        Due.due("forget()", x.forget(), 5);
        Due.due("hards()", x.hards(), 15);
        Due.due("count(3)", x.count(3), 0);
    }

    private static void limits() {
        CellNeighbours x = new CellNeighbours();
        int[][] bad = {{-1, 0}, {5, 0}, {0, -4}, {0, 5}, {Integer.MIN_VALUE, 0}, {0, Integer.MAX_VALUE}};
        for (int[] b : bad) {
            Due.due("sees(" + b[0] + ", " + b[1] + ")", x.sees(b[0], b[1]), CellNeighbours.BAD);
        }
        for (int i = 1; i <= 6; i++) {
            Due.due("sees(1, 3)", x.sees(1, 3), i);
        }
        Due.due("sees(1, 2), full", x.sees(1, 2), CellNeighbours.FULL);
        Due.due("sees(5, 2), full", x.sees(5, 2), CellNeighbours.BAD);
        Due.due("hards(), full", x.hards(), 4);
        Due.due("forget(), full", x.forget(), 6);
        Due.due("sees(1, 2)", x.sees(1, 2), 1);
    }
}
