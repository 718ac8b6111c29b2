/** What is SEEN, and promises 18 to 21: sees, forget, hards, next. */
final class HardBounds {
    private static final int BAD = CellNeighbours.BAD, FULL = CellNeighbours.FULL, NONE = CellNeighbours.NONE;
    private static final String TERMS = "## Terms";
    /** By SOUND, then by HARD. */
    private static final int[][] PUT = {{0, 0, 0, 0}, {1, 2, 3, 4}, {-3, -2, -1, 0}, {-1, -1, -1, -1}, {-1, 0, 1, 2}};

    private HardBounds() {
    }

    static void run() {
        sixAreSeen();
        figures();
        hardsOfAll();
        oneAtMost();
        sees();
        seesBad();
        seesFull();
        forget();
        hards();
        next();
    }

    private static void sixAreSeen() {
        Due.says(TERMS, "SEEN (6 at most)");
        CellNeighbours x = new CellNeighbours();
        Due.due("count(3), nothing", x.count(3), 0);
        for (int i = 1; i <= 6; i++) {
            // Alike ones count, too.
            Due.due("sees(3, -1)", x.sees(3, -1), i);
        }
        Due.due("sees(1, 1), a seventh", x.sees(1, 1), FULL);
        Due.due("count(3)", x.count(3), 6);
        Due.due("hards(), without the seventh", x.hards(), 15);
    }

    private static void figures() {
        Due.says(TERMS, "an unknown one put v (-3 .. 4) to a SOUND");
        for (int sound = 0; sound <= 4; sound++) {
            for (int v = -3; v <= 4; v++) {
                Due.due("sees(" + sound + ", " + v + ")", new CellNeighbours().sees(sound, v), 1);
            }
            Due.due("sees(" + sound + ", -4)", new CellNeighbours().sees(sound, -4), BAD);
            Due.due("sees(" + sound + ", 5)", new CellNeighbours().sees(sound, 5), BAD);
        }
    }

    private static int hardsBy(int sound, int v) {
        int bits = 0;
        for (int hard = 0; hard < 4; hard++) {
            bits |= PUT[sound][hard] == v ? 1 << hard : 0;
        }
        return bits;
    }

    private static void hardsOfAll() {
        Due.says(TERMS, "HARDS: of 0 .. 3 those (bits) by which all that was SEEN is so.");
        for (int one = 0; one < 40; one++) {
            for (int two = 0; two < 40; two++) {
                CellNeighbours x = new CellNeighbours();
                x.sees(one / 8, one % 8 - 3);
                x.sees(two / 8, two % 8 - 3);
                Due.due("hards() by " + one + " and " + two, x.hards(),
                    hardsBy(one / 8, one % 8 - 3) & hardsBy(two / 8, two % 8 - 3));
            }
        }
        // The last of six, too.
        CellNeighbours x = new CellNeighbours();
        for (int i = 0; i < 5; i++) {
            x.sees(0, 0);
        }
        x.sees(2, 0);
        Due.due("hards() by the sixth", x.hards(), 8);
    }

    private static void oneAtMost() {
        Due.says(TERMS, "of several the lowest; NONE (one can be at most)");
        CellNeighbours x = new CellNeighbours();
        // 1, 2 and 4 tell all apart; of these the lowest.
        Due.due("next(), all can be", x.next(), 1);
        x.sees(0, 0);
        x.sees(3, -1);
        Due.due("next(), all can be still", x.next(), 1);
        x.sees(4, 2);
        Due.due("hards(), one", x.hards(), 8);
        Due.due("next(), one can be", x.next(), NONE);
        x.sees(4, 1);
        Due.due("hards(), none", x.hards(), 0);
        Due.due("next(), none can be", x.next(), NONE);
    }

    private static void sees() {
        Due.says("## Promise 18:", "SEEN: how much there is.");
        CellNeighbours x = Twins.rich();
        Due.due("sees(0, 0), a third", x.sees(0, 0), 3);
        Due.due("sees(0, 0), a fourth", x.sees(0, 0), 4);
        Due.due("count(3)", x.count(3), 4);
    }

    private static void seesBad() {
        Due.says("## Promise 18:", "BAD");
        for (int sound : new int[] {Integer.MIN_VALUE, -1, 5, Integer.MAX_VALUE}) {
            Twins.changesNothing("sees(" + sound + ", 0)", Twins::rich, x -> x.sees(sound, 0), BAD);
        }
        for (int v : new int[] {Integer.MIN_VALUE, -4, 5, Integer.MAX_VALUE}) {
            Twins.changesNothing("sees(0, " + v + ")", Twins::rich, x -> x.sees(0, v), BAD);
        }
    }

    static CellNeighbours full() {
        CellNeighbours x = Twins.rich();
        for (int i = 2; i < 6; i++) {
            x.sees(1, 2);
        }
        return x;
    }

    private static void seesFull() {
        Due.says("## Promise 18:", "FULL");
        Twins.changesNothing("sees(1, 2), full", HardBounds::full, x -> x.sees(1, 2), FULL);
        Twins.changesNothing("sees(1, 3), full", HardBounds::full, x -> x.sees(1, 3), FULL);
        CellNeighbours x = full();
        x.forget();
        Due.due("sees(1, 3) behind forget()", x.sees(1, 3), 1);
        Due.due("hards()", x.hards(), 4);
    }

    private static void forget() {
        Due.says("## Promise 19:", "Nothing is SEEN: how much was.");
        CellNeighbours none = new CellNeighbours();
        Due.due("forget() of nothing", none.forget(), 0);
        CellNeighbours x = full();
        Due.due("hards()", x.hards(), 2);
        Due.due("forget() of six", x.forget(), 6);
        Due.due("count(3)", x.count(3), 0);
        Due.due("hards()", x.hards(), 15);
        Due.due("forget() again", x.forget(), 0);
        Due.due("now(4), all else is as it was", x.now(4), 4);
        Due.due("undo() does not bring it", x.undo(), 3);
        Due.due("count(3) behind undo()", x.count(3), 0);
    }

    private static void hards() {
        Due.says("## Promise 20:", "HARDS, as bits.");
        for (int hard = 0; hard < 4; hard++) {
            CellNeighbours x = new CellNeighbours();
            x.sees(1, hard + 1);
            Due.due("hards() by " + (hard + 1), x.hards(), 1 << hard);
        }
        Twins.changesNothing("hards()", Twins::rich, x -> x.hards(), 2);
        Due.due("hards(), nothing is SEEN", new CellNeighbours().hards(), 15);
    }

    private static void next() {
        Due.says("## Promise 21:", "TRY; NONE.");
        Twins.changesNothing("next(), one can be", Twins::rich, x -> x.next(), NONE);
        Twins.changesNothing("next(), new", CellNeighbours::new, x -> x.next(), 1);
    }
}
