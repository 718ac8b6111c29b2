/** Promises 12 to 17: brings, putsOn, carry, lies (and now(3)), word, odds. */
public final class ComesTest {
    public static void main(String[] args) {
        brings();
        putsOn();
        carry();
        lies();
        liesAskedAgain();
        words();
        odds();
        badOdds();
        nothingIsChanged();
        Due.end("ComesTest");
    }

    private static void brings() {
        CellNeighbours x = Due.told("n9;m0 1 3 60;m1 1 3 58;m3 2 0 2;m4 0 0 1;m6 3 0 9;m7 4 2 9;");
        int[] want = {0, 2, -2, -1, -2, -2};
        for (int m = 0; m < want.length; m++) {
            Due.due("brings(" + m + ")", x.brings(m), want[m]);
        }
        Due.due("brings(6)", x.brings(6), CellNeighbours.NO);
        Due.due("brings(-1)", x.brings(-1), CellNeighbours.NO);
        x.month();
        Due.due("brings(3), free", x.brings(3), 0);
        Due.due("brings(2), free", x.brings(2), 0);
    }

    private static void putsOn() {
        // A soft neighbour: he should sing. One alone: it is all the same, so the lowest.
        CellNeighbours x = Due.told("m0 1 0 8;m1 0 0 9;m3 4 0 7;");
        Due.due("putsOn(0, 0)", x.putsOn(0, 0), 2);
        Due.due("putsOn(0, 1)", x.putsOn(0, 1), 2);
        Due.due("putsOn(2, 0)", x.putsOn(2, 0), 0);
        Due.due("putsOn(2, 1)", x.putsOn(2, 1), 7);
        // A hard one: tapping helps, singing does nothing.
        CellNeighbours y = Due.told("m0 1 0 8;m1 0 3 9;");
        Due.due("putsOn(0, 0), hard", y.putsOn(0, 0), 3);
        Due.due("putsOn(0, 1), hard", y.putsOn(0, 1), 4);
        // HARD 2: singing and tapping put -1 alike, so the lower.
        CellNeighbours z = Due.told("m0 3 0 8;m1 0 2 9;");
        Due.due("putsOn(0, 0), alike", z.putsOn(0, 0), 2);
        Due.due("putsOn(0, 1), alike", z.putsOn(0, 1), 4);
        Due.due("putsOn(2, 0)", z.putsOn(2, 0), CellNeighbours.BAD);
        Due.due("putsOn(-1, 0)", z.putsOn(-1, 0), CellNeighbours.BAD);
        Due.due("putsOn(0, 2)", z.putsOn(0, 2), CellNeighbours.BAD);
        Due.due("putsOn(0, -1)", z.putsOn(0, -1), CellNeighbours.BAD);
        CellNeighbours free = Due.told("m0 0 0 1;");
        Due.due("putsOn(0, 0), 1 month", free.putsOn(0, 0), 0);
        Due.due("putsOn(0, 1), 1 month", free.putsOn(0, 1), 1);
        free.month();
        Due.due("putsOn(0, 0), free", free.putsOn(0, 0), CellNeighbours.STATE);
        Due.due("putsOn(0, 1), free", free.putsOn(0, 1), CellNeighbours.STATE);
        Due.due("putsOn(0, 2), free", free.putsOn(0, 2), CellNeighbours.BAD);
    }

    private static void carry() {
        // Snoring beside a hard one; of the empty cells away from him, the lowest.
        CellNeighbours x = Due.told("m0 1 0 9;m1 0 3 60;");
        Due.due("carry(0, 0)", x.carry(0, 0), 3);
        Due.due("carry(0, 1)", x.carry(0, 1), 9);
        Due.due("carry(1, 0), alone is alike", x.carry(1, 0), 1);
        Due.due("carry(1, 1)", x.carry(1, 1), 60);
        // Singing between two soft ones is best where he is; then his own cell is named.
        CellNeighbours y = Due.told("m2 0 0 60;m3 2 0 14;m4 0 0 60;");
        Due.due("carry(1, 0), his own", y.carry(1, 0), 3);
        Due.due("carry(1, 1), his own", y.carry(1, 1), 2);
        // One soft neighbour in 0, in 2 and in 3 alike: the lowest.
        CellNeighbours wall = Due.told("m1 0 0 60;m3 2 3 9;m4 0 0 60;m5 0 0 60;");
        Due.due("carry(1, 0), the lowest", wall.carry(1, 0), 0);
        Due.due("carry(1, 1), the lowest", wall.carry(1, 1), 3);
        // None in 60: both cells that he can have are beside a hard one.
        CellNeighbours z = Due.told("n3;m1 0 3 60;m0 1 0 9;");
        Due.due("carry(1, 0), none", z.carry(1, 0), CellNeighbours.NONE);
        Due.due("carry(1, 1), none", z.carry(1, 1), CellNeighbours.NONE);
        Due.due("carry(2, 0)", z.carry(2, 0), CellNeighbours.BAD);
        Due.due("carry(-1, 0)", z.carry(-1, 0), CellNeighbours.BAD);
        Due.due("carry(0, 2)", z.carry(0, 2), CellNeighbours.BAD);
        Due.due("carry(0, -1)", z.carry(0, -1), CellNeighbours.BAD);
        CellNeighbours free = Due.told("m0 0 0 1;");
        free.month();
        Due.due("carry(0, 0), free", free.carry(0, 0), CellNeighbours.STATE);
        Due.due("carry(0, 1), free", free.carry(0, 1), CellNeighbours.STATE);
        Due.due("carry(0, 2), free", free.carry(0, 2), CellNeighbours.BAD);
    }

    private static void lies() {
        // All alike: the first way, by the lowest man's cell, whatever it is now.
        Due.liesAre(Due.told("m5 0 0 9;m3 0 0 9;m0 0 0 9;"), 24, 0, 3, 5);
        // The snorer should have the cell that is apart.
        Due.liesAre(Due.told("m0 0 3 9;m1 1 3 9;m5 0 3 9;"), 24, 0, 5, 1);
        // The singer should lie beside the soft one: cells 0 and 1; the lowest man first.
        Due.liesAre(Due.told("m0 0 3 9;m1 2 3 9;m5 0 0 9;"), 21, 5, 0, 1);
        CellNeighbours x = Due.told("m0 0 3 1;m1 1 3 9;m5 0 3 9;");
        Due.due("lies(3)", x.lies(3), CellNeighbours.BAD);
        Due.due("lies(-1)", x.lies(-1), CellNeighbours.BAD);
        x.month();
        // He in 1 has 12 by now; those IN have the cells 1 and 5 alone.
        Due.liesAre(x, 11 + 7, CellNeighbours.NONE, 1, 5);
        x.undo();
        Due.liesAre(x, 0 + 8 + 8, 0, 5, 1);
        x.feigns(1, 0);
        Due.liesAre(x, 0 + 8 + 8, 0, 1, 5);
        x.undo();
        x.moves(0, 4);
        Due.liesAre(x, 0 + 8 + 8, 4, 1, 5);
        Due.liesAre(new CellNeighbours(), 0);
    }

    /** Each answer is of its own NOW, whatever was asked before it. */
    private static void liesAskedAgain() {
        CellNeighbours x = Due.told("m2 0 0 9;");
        Due.due("lies(0), asked first", x.lies(0), 2);
        x.month();
        Due.due("now(3), a month on", x.now(3), 7);
        x.moves(0, 4);
        Due.due("lies(0), moved", x.lies(0), 4);
        Due.reads(x, "m4 0 0 8;m5 0 0 8;");
        Due.due("now(3), one more man", x.now(3), 14);
        x.feigns(0, 3);
        x.feigns(1, 3);
        Due.due("now(3), both tap", x.now(3), 12);
        x.feigns(1, 2);
        Due.due("now(3), one sings", x.now(3), 10);
        Due.reads(x, "m4 3 3 8;m5 2 3 8;");
        Due.due("now(3), both are hard", x.now(3), 13);
        Due.reads(x, "m4 3 3 8;m5 2 2 8;");
        Due.due("now(3), one is less hard", x.now(3), 13);
        Due.reads(x, "m4 3 2 8;m5 2 2 8;");
        Due.due("now(3), he who hears the song is", x.now(3), 12);
    }

    private static void words() {
        CellNeighbours x = Due.told("n9;m0 0 0 9;m1 0 0 8;m2 0 0 1;m3 0 0 9;m5 0 0 9;");
        Due.due("word(0, 1)", x.word(0, 1), 1);
        Due.due("word(0, 3)", x.word(0, 3), 3);
        Due.due("word(3, 0)", x.word(3, 0), 3);
        Due.due("word(0, 4)", x.word(0, 4), CellNeighbours.NONE);
        Due.due("word(4, 4)", x.word(4, 4), CellNeighbours.BAD);
        Due.due("word(0, 5)", x.word(0, 5), CellNeighbours.BAD);
        Due.due("word(5, 0)", x.word(5, 0), CellNeighbours.BAD);
        Due.due("word(-1, 0)", x.word(-1, 0), CellNeighbours.BAD);
        Due.due("word(0, -1)", x.word(0, -1), CellNeighbours.BAD);
        x.month();
        Due.due("word(0, 3), a gap", x.word(0, 3), CellNeighbours.NONE);
        Due.due("word(0, 2), free", x.word(0, 2), CellNeighbours.NONE);
        Due.due("word(2, 0), free", x.word(2, 0), CellNeighbours.NONE);
        Due.due("word(2, 2), free", x.word(2, 2), CellNeighbours.BAD);
        CellNeighbours two = Due.told("n9;l2;m0 0 0 9;m2 0 0 8;m4 0 0 9;m5 0 0 9;m8 0 0 9;");
        Due.due("word(0, 3), loud 2", two.word(0, 3), 3);
        Due.due("word(0, 2), loud 2", two.word(0, 2), 2);
        Due.due("word(3, 4), loud 2", two.word(3, 4), CellNeighbours.NONE);
        CellNeighbours three = Due.told("n9;l3;m0 0 0 9;m2 0 0 8;m4 0 0 9;m5 0 0 9;m8 0 0 9;");
        Due.due("word(0, 4), loud 3", three.word(0, 4), 3);
        Due.due("word(0, 3), loud 3", three.word(0, 3), 2);
        CellNeighbours row = Due.told("m0 0 0 9;m1 0 0 9;m2 0 0 9;m3 0 0 9;m4 0 0 9;m5 0 0 9;");
        Due.due("word(5, 0), five", row.word(5, 0), 5);
    }

    private static void odds() {
        // Silent he has 1 less a month, snoring beside HARD 0 as much as he had.
        CellNeighbours x = Due.told("n3;m0 0 0 2;m1 0 0 60;");
        Due.oddsAre(x, 0, 0, 0, 0, 1);
        Due.oddsAre(x, 0, 10, 0, 0, 1);
        Due.oddsAre(x, 0, 0, 1, 0, 1);
        Due.oddsAre(x, 0, 0, 2, 1, 1);
        Due.oddsAre(x, 0, 10, 6, 0, 1);
        Due.oddsAre(x, 0, 5, 2, 1, 4);
        Due.oddsAre(x, 0, 3, 2, 49, 100);
        Due.oddsAre(x, 0, 5, 3, 1, 2);
        Due.oddsAre(x, 0, 1, 3, 972 / 4, 1000 / 4);
        Due.oddsAre(x, 0, 9, 6, 114265 / 5, 1000000 / 5);
        Due.oddsAre(x, 1, 7, 6, 0, 1);
        // One who snores anyhow.
        CellNeighbours y = Due.told("n3;m0 1 0 2;m2 0 0 60;");
        Due.oddsAre(y, 0, 4, 2, 1, 1);
        Due.oddsAre(y, 0, 4, 1, 0, 1);
        // Once he is free he stays free; and one who is free is so by any x and n.
        CellNeighbours z = Due.told("n3;m0 0 0 1;m1 0 0 60;");
        Due.oddsAre(z, 0, 5, 1, 1, 2);
        Due.oddsAre(z, 0, 5, 6, 63, 64);
        Due.oddsAre(z, 0, 9, 6, 468559, 1000000);
        z.month();
        Due.oddsAre(z, 0, 5, 6, 1, 1);
        Due.oddsAre(z, 0, 5, 0, 1, 1);
        // His neighbour goes free behind the first month: then snoring costs nothing.
        CellNeighbours w = Due.told("n3;m0 0 0 2;m1 0 3 1;");
        Due.oddsAre(w, 0, 5, 2, 1, 2);
    }

    private static void badOdds() {
        CellNeighbours x = Due.told("n3;m0 0 0 1;");
        int[][] bad = {{1, 0, 0, 0}, {-1, 0, 0, 0}, {0, -1, 0, 0}, {0, 11, 0, 0}, {0, 0, -1, 0}, {0, 0, 7, 0},
            {0, 0, 0, -1}, {0, 0, 0, 2}, {0, 0, Integer.MAX_VALUE, 0}};
        for (int[] b : bad) {
            String call = "odds(" + b[0] + ", " + b[1] + ", " + b[2] + ", " + b[3] + ")";
            Due.due(call, x.odds(b[0], b[1], b[2], b[3]), CellNeighbours.BAD);
        }
        x.month();
        Due.due("odds(0, 11, 0, 0), free", x.odds(0, 11, 0, 0), CellNeighbours.BAD);
    }

    private static void nothingIsChanged() {
        CellNeighbours x = Due.told("n9;l2;m0 1 3 10;m1 2 0 6;m2 4 2 20;m4 0 1 3;m6 3 0 40;");
        x.month();
        String till = Due.all(x);
        for (int m = 0; m < 5; m++) {
            x.brings(m);
            x.putsOn(m, 0);
            x.carry(m, 1);
            x.lies(m);
            x.word(m, 0);
            x.odds(m, 5, 6, 0);
        }
        Due.holds("what comes changes nothing", till.equals(Due.all(x)));
    }
}
