/** Section 2 of the terms, and promises 8 to 11: month, moves, feigns, undo. */
final class DoneBounds {
    private static final int BAD = CellNeighbours.BAD, STATE = CellNeighbours.STATE, NONE = CellNeighbours.NONE;
    private static final String TERMS = "## Terms";
    private static final int[] NO_MEN = {Integer.MIN_VALUE, -1, 5, 6, Integer.MAX_VALUE};

    private DoneBounds() {
    }

    static void run() {
        singing();
        mostMonths();
        allAtOnce();
        bothTogether();
        leastAndMost();
        freeAtNought();
        movedToAnEmptyCell();
        anotherSound();
        tenAreKnown();
        latestNotRefused();
        month();
        monthState();
        moves();
        movesBad();
        movesState();
        feigns();
        feignsBad();
        feignsState();
        undo();
        undoState();
    }

    // ---- section 2

    private static void singing() {
        Due.says(TERMS, "SINGS h less 3 (-3 .. 0)");
        for (int hard = 0; hard <= 3; hard++) {
            CellNeighbours x = Due.told("n2;m0 2 0 30;m1 0 " + hard + " 30;");
            Due.due("brings(0) beside " + hard, x.brings(0), -1 + hard - 3);
            Due.due("month()", x.month(), 0);
            Due.due("man(0, 3) beside " + hard, x.man(0, 3), 29 + hard - 3);
        }
    }

    /** The two stay at 60 as long as both snore. That takes more than the 512 calls that are promised. */
    static CellNeighbours atMonth(int month) {
        CellNeighbours x = Due.told("m0 1 3 60;m1 1 3 60;");
        for (int i = 0; i < month; i++) {
            x.month();
        }
        return x;
    }

    private static void mostMonths() {
        Due.says(TERMS, "A MONTH goes by (999 at most)");
        CellNeighbours x = atMonth(998);
        Due.due("month(), the last", x.month(), 0);
        Due.due("now(0)", x.now(0), 999);
        Due.due("month(), one too many", x.month(), STATE);
        Due.due("now(0), still", x.now(0), 999);
        Due.due("undo()", x.undo(), 9);
        Due.due("now(0), undone", x.now(0), 998);
        Due.due("month(), the last again", x.month(), 0);
        Due.due("keep(0)", x.keep(0), 999);
        Due.due("back(0)", x.back(0), 999);
        Due.due("month(), one too many, behind back()", x.month(), STATE);
    }

    private static void allAtOnce() {
        Due.says(TERMS, "all at once, YEARS of each who is IN are 1 less");
        // Both who go FREE are still heard in that month, by one another and by him between them.
        CellNeighbours x = Due.told("m0 0 3 1;m1 1 3 5;m2 0 3 1;m3 1 0 1;");
        Due.due("month()", x.month(), 2);
        Due.due("man(1, 3), both heard him", x.man(1, 3), 5 - 1 + 4 + 4);
        Due.due("man(3, 3), one heard him", x.man(3, 3), 1 - 1 + 4);
        Due.due("month(), nobody hears them", x.month(), 0);
        Due.due("man(1, 3)", x.man(1, 3), 11);
        Due.due("man(3, 3)", x.man(3, 3), 3);
        // Who is FREE has no month more.
        Due.due("man(0, 3), free", x.man(0, 3), 0);
    }

    private static void bothTogether() {
        Due.says(TERMS, "(both together; of that 0 at least, 60 at most)");
        // One by one he would come to 59 (over 60) or to 2 (under 0) or be FREE too early.
        CellNeighbours most = Due.told("m0 0 3 30;m1 4 0 60;m2 0 0 30;");
        most.month();
        Due.due("man(1, 3), 60 - 1 + 2 - 1", most.man(1, 3), 60);
        CellNeighbours turned = Due.told("m0 0 0 30;m1 4 0 60;m2 0 3 30;");
        turned.month();
        Due.due("man(1, 3), 60 - 1 - 1 + 2", turned.man(1, 3), 60);
        CellNeighbours least = Due.told("m0 0 0 30;m1 4 0 1;m2 0 3 30;");
        Due.due("month()", least.month(), 0);
        Due.due("man(1, 3), 1 - 1 - 1 + 2", least.man(1, 3), 1);
        CellNeighbours either = Due.told("m0 0 3 30;m1 4 0 1;m2 0 0 30;");
        Due.due("month()", either.month(), 0);
        Due.due("man(1, 3), 1 - 1 + 2 - 1", either.man(1, 3), 1);
    }

    private static void leastAndMost() {
        Due.says(TERMS, "0 at least, 60 at most");
        // Two hard ones put 8 to the snoring, two soft ones -6 to the song.
        int[][] snoring = {{52, 59}, {53, 60}, {54, 60}, {60, 60}};
        for (int[] years : snoring) {
            CellNeighbours x = Due.told("m0 0 3 9;m1 1 0 " + years[0] + ";m2 0 3 9;");
            x.month();
            Due.due("man(1, 3), snoring from " + years[0], x.man(1, 3), years[1]);
        }
        int[][] singing = {{8, 1}, {7, 0}, {6, 0}, {1, 0}};
        for (int[] years : singing) {
            CellNeighbours x = Due.told("m0 0 0 9;m1 2 0 " + years[0] + ";m2 0 0 9;");
            Due.due("month(), singing from " + years[0], x.month(), years[1] == 0 ? 1 : 0);
            Due.due("man(1, 3), singing from " + years[0], x.man(1, 3), years[1]);
        }
    }

    private static void freeAtNought() {
        Due.says(TERMS, "who has 0 then is FREE (not IN, his CELL is empty)");
        CellNeighbours x = Due.told("n3;m1 0 0 1;m0 0 0 2;");
        Due.due("month()", x.month(), 1);
        Due.due("now(1)", x.now(1), 2);
        Due.due("cell(1)", x.cell(1), NONE);
        Due.due("man(0, 0)", x.man(0, 0), NONE);
        Due.due("man(0, 3)", x.man(0, 3), 0);
        Due.due("cell(0), 1 is not 0", x.cell(0), 1);
        Due.due("moves(1, 1), there is room", x.moves(1, 1), 0);
    }

    private static void movedToAnEmptyCell() {
        Due.says(TERMS, "MOVED: one who is IN, to an empty CELL.");
        CellNeighbours x = Due.told("n9;m0 0 0 9;m4 0 0 9;");
        Due.due("moves(0, 8), to the last", x.moves(0, 8), 0);
        Due.due("moves(0, 0), to the first", x.moves(0, 0), 8);
        Due.due("moves(0, 3), beside another", x.moves(0, 3), 0);
        Due.due("man(0, 0)", x.man(0, 0), 3);
        Due.due("man(1, 4)", x.man(1, 4), 1);
        Due.due("cell(0), he left it", x.cell(0), NONE);
        CellNeighbours full = Due.told("n2;m0 0 0 9;m1 0 0 9;");
        Due.due("moves(0, 1), no cell is empty", full.moves(0, 1), STATE);
        Due.due("moves(1, 0), no cell is empty", full.moves(1, 0), STATE);
    }

    private static void anotherSound() {
        Due.says(TERMS, "FEIGNED: one who is IN has another SOUND.");
        CellNeighbours x = Due.told("n2;m0 0 0 30;m1 0 3 30;");
        Due.due("feigns(0, 4), the last", x.feigns(0, 4), 0);
        Due.due("brings(0)", x.brings(0), 1);
        Due.due("feigns(0, 0), the first", x.feigns(0, 0), 4);
        Due.due("brings(0)", x.brings(0), -1);
        x.feigns(0, 1);
        x.month();
        Due.due("man(0, 1), it lasts", x.man(0, 1), 1);
        Due.due("man(1, 1), the other's is as it was", x.man(1, 1), 0);
    }

    /** One of the three, by turns. */
    private static void doSomething(CellNeighbours x, int turn) {
        if (turn % 3 == 0) {
            Due.due("month()", x.month(), 0);
        } else if (turn % 3 == 1) {
            Due.holds("moves(0, ..) is done", x.moves(0, x.man(0, 0) == 0 ? 1 : 0) >= 0);
        } else {
            Due.holds("feigns(0, ..) is done", x.feigns(0, x.man(0, 1) == 0 ? 3 : 0) >= 0);
        }
    }

    private static String brief(CellNeighbours x) {
        return x.now(0) + " " + x.man(0, 0) + " " + x.man(0, 1) + " " + x.man(0, 3);
    }

    private static void tenAreKnown() {
        Due.says(TERMS, "(10 are known, older ones are lost)");
        for (int done : new int[] {9, 10, 11, 12, 20, 21, 35}) {
            CellNeighbours x = Due.told("n2;m0 0 0 60;");
            String[] was = new String[done];
            for (int i = 0; i < done; i++) {
                was[i] = brief(x);
                doSomething(x, i);
                Due.due("now(4) behind " + (i + 1), x.now(4), Math.min(10, i + 1));
            }
            int known = Math.min(10, done);
            for (int i = 1; i <= known; i++) {
                Due.due("undo() of " + done, x.undo(), known - i);
                Due.holds("undone to " + was[done - i] + ", it is " + brief(x), was[done - i].equals(brief(x)));
            }
            Due.due("undo(), it is lost", x.undo(), STATE);
            Due.holds("it stays " + was[done - known], was[done - known].equals(brief(x)));
        }
    }

    private static void latestNotRefused() {
        Due.says(TERMS, "UNDONE: the latest month(), moves(), feigns() that was not refused");
        CellNeighbours x = Due.told("n3;m0 0 0 9;m1 0 0 9;");
        x.moves(0, 2);
        x.moves(0, 1);
        x.moves(0, 3);
        x.moves(2, 0);
        x.feigns(0, 0);
        x.feigns(0, 5);
        x.keep(0);
        x.sees(0, 0);
        x.rate(0, 0);
        x.type('n');
        Due.due("now(4), one was done", x.now(4), 1);
        Due.due("undo()", x.undo(), 0);
        Due.due("man(0, 0)", x.man(0, 0), 0);
        // An undo is not done either: none brings it again.
        Due.due("undo(), none", x.undo(), STATE);
        Due.due("man(0, 0), still", x.man(0, 0), 0);
        Due.due("what is SEEN stays", x.count(3), 1);
        Due.due("the text stays", x.count(4), 1);
        Due.due("the image stays", x.back(0), 0);
        Due.due("with what it kept", x.man(0, 0), 2);
    }

    // ---- promises 8 to 11

    private static void month() {
        Due.says("## Promise 8:", "A MONTH: how many become FREE.");
        Due.due("month() without men", new CellNeighbours().month(), 0);
        CellNeighbours x = Due.told("n9;m0 0 0 1;m1 0 0 1;m2 0 0 1;m3 0 0 1;m4 0 0 1;m5 0 0 1;");
        Due.due("month(), all six", x.month(), 6);
        Due.due("month(), none is left", x.month(), 0);
        Due.due("now(0)", x.now(0), 2);
    }

    private static void monthState() {
        Due.says("## Promise 8:", "STATE: it is 999.");
        Twins.changesNothing("month() at 999", () -> atMonth(999), x -> x.month(), STATE);
        Due.due("month() at 998", atMonth(998).month(), 0);
    }

    private static void moves() {
        Due.says("## Promise 9:", "MOVED: the CELL till then.");
        CellNeighbours x = Due.told("n9;m8 0 0 9;");
        for (int c = 7; c >= 0; c--) {
            Due.due("moves(0, " + c + ")", x.moves(0, c), c + 1);
        }
        Due.due("now(0), no month has gone by", x.now(0), 0);
    }

    private static void movesBad() {
        Due.says("## Promise 9:", "BAD");
        for (int m : NO_MEN) {
            Twins.changesNothing("moves(" + m + ", 3)", Twins::rich, x -> x.moves(m, 3), BAD);
        }
        for (int c : new int[] {Integer.MIN_VALUE, -1, 7, 8, 9, Integer.MAX_VALUE}) {
            Twins.changesNothing("moves(0, " + c + ")", Twins::rich, x -> x.moves(0, c), BAD);
        }
    }

    private static void movesState() {
        Due.says("## Promise 9:", "STATE: he is FREE, it is not empty.");
        Twins.changesNothing("moves(free, 3)", Twins::rich, x -> x.moves(Twins.FREED, 3), STATE);
        Twins.changesNothing("moves(free, 4), his till then", Twins::rich, x -> x.moves(Twins.FREED, 4), STATE);
        Twins.changesNothing("moves(free, 0), not empty", Twins::rich, x -> x.moves(Twins.FREED, 0), STATE);
        Twins.changesNothing("moves(0, 1), another's", Twins::rich, x -> x.moves(0, 1), STATE);
        Twins.changesNothing("moves(0, 0), his own", Twins::rich, x -> x.moves(0, 0), STATE);
        Due.due("moves(0, 4), of one who is FREE", Twins.rich().moves(0, 4), 0);
    }

    private static void feigns() {
        Due.says("## Promise 10:", "FEIGNED: the SOUND till then.");
        CellNeighbours x = Due.told("m0 4 0 9;");
        for (int sound = 3; sound >= 0; sound--) {
            Due.due("feigns(0, " + sound + ")", x.feigns(0, sound), sound + 1);
        }
        Due.due("now(0), no month has gone by", x.now(0), 0);
    }

    private static void feignsBad() {
        Due.says("## Promise 10:", "BAD");
        for (int m : NO_MEN) {
            Twins.changesNothing("feigns(" + m + ", 3)", Twins::rich, x -> x.feigns(m, 3), BAD);
        }
        for (int sound : new int[] {Integer.MIN_VALUE, -1, 5, 6, Integer.MAX_VALUE}) {
            Twins.changesNothing("feigns(0, " + sound + ")", Twins::rich, x -> x.feigns(0, sound), BAD);
        }
    }

    private static void feignsState() {
        Due.says("## Promise 10:", "STATE: he is FREE, it is so.");
        Twins.changesNothing("feigns(free, 1)", Twins::rich, x -> x.feigns(Twins.FREED, 1), STATE);
        Twins.changesNothing("feigns(free, 0), it is so", Twins::rich, x -> x.feigns(Twins.FREED, 0), STATE);
        Twins.changesNothing("feigns(0, 1), it is so", Twins::rich, x -> x.feigns(0, 1), STATE);
        Twins.changesNothing("feigns(2, 0), it is so, feigned", Twins::rich, x -> x.feigns(2, 0), STATE);
        Due.due("feigns(2, 4), his first one again", Twins.rich().feigns(2, 4), 0);
    }

    private static void undo() {
        Due.says("## Promise 11:", "UNDONE: how many more may be.");
        CellNeighbours x = Twins.rich();
        Due.due("now(4)", x.now(4), 4);
        for (int more = 3; more >= 0; more--) {
            Due.due("undo()", x.undo(), more);
            Due.due("now(4)", x.now(4), more);
        }
        Due.due("now(0)", x.now(0), 0);
        Due.due("now(1), he is IN again", x.now(1), 31);
    }

    private static CellNeighbours nothingToUndo() {
        CellNeighbours x = Twins.rich();
        for (int i = 0; i < 4; i++) {
            x.undo();
        }
        return x;
    }

    private static void undoState() {
        Due.says("## Promise 11:", "STATE: none.");
        Twins.changesNothing("undo(), new", CellNeighbours::new, x -> x.undo(), STATE);
        Twins.changesNothing("undo(), all is undone", DoneBounds::nothingToUndo, x -> x.undo(), STATE);
        CellNeighbours x = nothingToUndo();
        x.undo();
        x.month();
        Due.due("undo(), one behind it", x.undo(), 0);
    }
}
