import java.lang.management.ManagementFactory;

/** The room: calls make nothing, so only what the constructor makes is counted. */
public final class RoomTest {
    private static long sink = 0;

    public static void main(String[] args) {
        CellNeighbours x = Due.told("n9;l2;m0 1 3 60;m1 2 0 50;m2 4 2 20;m4 0 1 30;m6 3 0 40;m7 2 2 60;");
        com.sun.management.ThreadMXBean beans = (com.sun.management.ThreadMXBean) ManagementFactory.getThreadMXBean();
        long id = Thread.currentThread().getId();
        askAll(x);
        beans.getThreadAllocatedBytes(id);
        long till = beans.getThreadAllocatedBytes(id);
        for (int i = 0; i < 40; i++) {
            askAll(x);
        }
        long made = beans.getThreadAllocatedBytes(id) - till;
        Due.holds("some thousands of calls make nothing (" + made + " bytes, " + sink + ")", made < 4096);
        till = beans.getThreadAllocatedBytes(id);
        sink += new CellNeighbours().count(0);
        made = beans.getThreadAllocatedBytes(id) - till;
        Due.holds("a new object is small (" + made + " bytes)", made < 16384);
        Due.end("RoomTest");
    }

    private static void askAll(CellNeighbours x) {
        for (int m = -1; m < 7; m++) {
            for (int what = -1; what < 7; what++) {
                sink += x.man(m, what) + x.moves(m, what) + x.feigns(m, what) + x.word(m, what) + x.rate(what, m);
            }
            sink += x.lies(m) + x.now(m) + x.cell(m) + x.brings(m) + x.count(m) + x.keep(m) + x.sees(m, 1);
            sink += x.putsOn(m, 0) + x.carry(m, 1) + x.odds(m, 5, 6, 0) + x.odds(m, 3, 4, 1);
            sink += x.hards() + x.next() + x.month() + x.undo() + x.trace();
        }
        sink += x.back(0) + x.forget();
        x.type('n');
        sink += x.gaol() + x.clear();
    }
}
