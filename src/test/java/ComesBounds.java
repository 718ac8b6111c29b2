/** Section 3 of the terms, and promises 12 to 17: brings, putsOn, carry, lies, word, odds. */
final class ComesBounds {
    private static final int BAD = CellNeighbours.BAD, STATE = CellNeighbours.STATE, NONE = CellNeighbours.NONE;
    private static final int NO = CellNeighbours.NO;
    private static final String TERMS = "## Terms";
    private static final int[] NO_MEN = {Integer.MIN_VALUE, -1, 5, 6, Integer.MAX_VALUE};
    private static final int[] NEITHER = {Integer.MIN_VALUE, -1, 2, Integer.MAX_VALUE};

    private ComesBounds() {
    }

    static void run() {
        nothingIsChanged();
        bringsWithinYears();
        outInSixty();
        pastTheLastMonth();
        soundOfHisOwn();
        lowestSound();
        soundInSixty();
        emptyCellOrHisOwn();
        lowestCell();
        noCellInSixty();
        theFirstWay();
        whoIsNotIn();
        loudCells();
        noWord();
        oddsOfTenths();
        brings();
        bringsNo();
        putsOn();
        putsOnBad();
        putsOnState();
        carry();
        carryBad();
        carryState();
        lies();
        liesBad();
        wordNone();
        wordBad();
        odds();
        oddsBad();
    }

    // ---- section 3

    private static void nothingIsChanged() {
        Due.says(TERMS, "(As things are NOW; nothing is changed.)");
        for (int m = 0; m < 5; m++) {
            int who = m;
            CellNeighbours x = Twins.rich();
            unchanged("brings(" + m + ")", y -> y.brings(who), x.brings(m));
            for (int what = 0; what < 2; what++) {
                int asked = what;
                unchanged("putsOn(" + m + ", " + what + ")", y -> y.putsOn(who, asked), x.putsOn(m, what));
                unchanged("carry(" + m + ", " + what + ")", y -> y.carry(who, asked), x.carry(m, what));
                unchanged("odds(" + m + ", 3, 6, " + what + ")", y -> y.odds(who, 3, 6, asked), x.odds(m, 3, 6, what));
            }
            unchanged("lies(" + m + ")", y -> y.lies(who), x.lies(m));
            unchanged("man(" + m + ", 5)", y -> y.man(who, 5), x.man(m, 5));
        }
        unchanged("word(0, 4)", y -> y.word(0, 4), Twins.rich().word(0, 4));
        unchanged("now(3)", y -> y.now(3), Twins.rich().now(3));
    }

    private static void unchanged(String call, Twins.Call asked, long want) {
        Twins.changesNothing(call, Twins::rich, asked, want);
    }

    private static void bringsWithinYears() {
        Due.says(TERMS, "(from what he has: 0 .. 60, too)");
        // A hard one puts 4 to the snoring, a soft one -3 to the song.
        int[][] snoring = {{56, 3}, {57, 3}, {58, 2}, {59, 1}, {60, 0}};
        for (int[] years : snoring) {
            CellNeighbours x = Due.told("m0 1 0 " + years[0] + ";m1 0 3 9;");
            Due.due("brings(0), snoring at " + years[0], x.brings(0), years[1]);
        }
        int[][] singing = {{5, -4}, {4, -4}, {3, -3}, {2, -2}, {1, -1}};
        for (int[] years : singing) {
            CellNeighbours x = Due.told("m0 2 0 " + years[0] + ";m1 0 0 9;");
            Due.due("brings(0), singing at " + years[0], x.brings(0), years[1]);
        }
    }

    private static void outInSixty() {
        Due.says(TERMS, "OUT of one: in how many MONTHS (0 .. 60) he is FREE first");
        CellNeighbours alone = Due.told("m0 0 0 60;m2 0 0 1;");
        Due.due("man(0, 5), 60", alone.man(0, 5), 60);
        Due.due("man(1, 5), 1", alone.man(1, 5), 1);
        alone.month();
        Due.due("man(0, 5), a month on", alone.man(0, 5), 59);
        Due.due("man(1, 5), free", alone.man(1, 5), 0);
        // Snoring beside HARD 0 he has none less till the other is FREE.
        Due.due("man(0, 5), 55 held for 5", Due.told("m0 1 0 55;m1 0 0 5;").man(0, 5), 60);
        Due.due("man(0, 5), 56 held for 5", Due.told("m0 1 0 56;m1 0 0 5;").man(0, 5), NONE);
        Due.due("man(0, 5), 1 held for 60", Due.told("m0 1 0 1;m1 0 0 60;").man(0, 5), NONE);
        Due.due("man(0, 5), 1 held for 59", Due.told("m0 1 0 1;m1 0 0 59;").man(0, 5), 60);
    }

    private static void pastTheLastMonth() {
        Due.says(TERMS, "(past MONTH 999, too; so in PUT ON, CARRY); NONE.");
        CellNeighbours x = DoneBounds.atMonth(999);
        Due.due("brings(0)", x.brings(0), 0);
        Due.due("man(0, 5), both snore", x.man(0, 5), NONE);
        Due.due("putsOn(0, 0), he taps", x.putsOn(0, 0), 3);
        Due.due("putsOn(0, 1)", x.putsOn(0, 1), 30);
        Due.due("carry(0, 0), away from him", x.carry(0, 0), 3);
        Due.due("carry(0, 1)", x.carry(0, 1), 60);
        Due.due("now(3)", x.now(3), 120);
        Due.due("feigns(0, 3)", x.feigns(0, 3), 1);
        Due.due("man(0, 5), he taps", x.man(0, 5), 30);
        Due.due("brings(0), he taps", x.brings(0), -2);
        Due.due("now(0)", x.now(0), 999);
    }

    private static void soundOfHisOwn() {
        Due.says(TERMS, "PUT ON: the SOUND (his own, too)");
        for (int own = 0; own <= 4; own++) {
            // Beside a soft one singing is best, whatever his own is; beside a hard one tapping.
            CellNeighbours soft = Due.told("m0 " + own + " 0 8;m1 0 0 60;");
            Due.due("putsOn(0, 0), soft, own " + own, soft.putsOn(0, 0), 2);
            Due.due("putsOn(0, 1), soft, own " + own, soft.putsOn(0, 1), 2);
            CellNeighbours hard = Due.told("m0 " + own + " 0 8;m1 0 3 60;");
            Due.due("putsOn(0, 0), hard, own " + own, hard.putsOn(0, 0), 3);
            Due.due("putsOn(0, 1), hard, own " + own, hard.putsOn(0, 1), 4);
        }
    }

    private static void lowestSound() {
        Due.says(TERMS, "he is FREE soonest, of several the lowest: which; in how many MONTHS");
        Due.due("putsOn(0, 0), alone", Due.told("m0 4 0 9;").putsOn(0, 0), 0);
        // HARD 2 puts -1 to the song and to the tapping.
        Due.due("putsOn(0, 0), 2 as 3", Due.told("m0 3 0 9;m1 0 2 60;").putsOn(0, 0), 2);
        // In 1 month by 2, 3 and 4; by 0 and 1 not.
        CellNeighbours soon = Due.told("m0 4 0 2;m1 0 0 60;");
        Due.due("putsOn(0, 0), 2, 3, 4 alike", soon.putsOn(0, 0), 2);
        Due.due("putsOn(0, 1), 2, 3, 4 alike", soon.putsOn(0, 1), 1);
        // Of 1 year by 0, too: in the same month as by those that put less.
        Due.due("putsOn(0, 0), 0 as the others", Due.told("m0 4 0 1;m1 0 0 60;").putsOn(0, 0), 0);
    }

    private static void soundInSixty() {
        Due.says(TERMS, "NONE (by none in 60)");
        // SILENT he has 1 less each month, so he is FREE in 60 at most; NONE can't come.
        CellNeighbours alone = Due.told("m0 1 3 60;");
        Due.due("putsOn(0, 0), 60 alone", alone.putsOn(0, 0), 0);
        Due.due("putsOn(0, 1), 60 alone", alone.putsOn(0, 1), 60);
        CellNeighbours held = Due.told("m0 1 3 60;m1 1 3 60;");
        Due.due("man(0, 5), by his own never", held.man(0, 5), NONE);
        Due.due("putsOn(0, 0)", held.putsOn(0, 0), 3);
        Due.due("putsOn(0, 1)", held.putsOn(0, 1), 30);
    }

    private static void emptyCellOrHisOwn() {
        Due.says(TERMS, "CARRY: the CELL (an empty one, his own, too)");
        // Singing between two soft ones is best, and that is where he is.
        CellNeighbours own = Due.told("m2 0 0 60;m3 2 0 14;m4 0 0 60;");
        Due.due("carry(1, 0), his own", own.carry(1, 0), 3);
        Due.due("carry(1, 1), his own", own.carry(1, 1), 2);
        // Between the same two there is another one now.
        CellNeighbours taken = Due.told("m2 0 0 60;m0 2 0 14;m4 0 0 60;m3 0 0 60;");
        Due.due("carry(1, 0), beside one of them", taken.carry(1, 0), 1);
        Due.due("carry(1, 1), beside one of them", taken.carry(1, 1), 4);
        CellNeighbours full = Due.told("n2;m0 0 0 5;m1 0 0 6;");
        Due.due("carry(1, 0), no cell is empty", full.carry(1, 0), 1);
        Due.due("carry(1, 1), no cell is empty", full.carry(1, 1), 6);
        // The cell of one who is FREE is empty.
        CellNeighbours freed = Due.told("n2;m0 0 0 1;m1 0 0 9;");
        freed.month();
        Due.due("carry(1, 0), one is FREE", freed.carry(1, 0), 0);
    }

    private static void lowestCell() {
        Due.says(TERMS, "in which, MOVED NOW, he is FREE soonest, of several the lowest: which; in how many");
        Due.due("carry(0, 0), alone", Due.told("n9;m8 0 0 9;").carry(0, 0), 0);
        // The last cell, if it is the only one away from the hard ones.
        CellNeighbours last = Due.told("n9;m0 1 0 9;m1 0 3 60;m4 0 3 60;m6 0 3 60;");
        Due.due("carry(0, 0), the last", last.carry(0, 0), 8);
        Due.due("carry(0, 1), the last", last.carry(0, 1), 9);
        CellNeighbours more = Due.told("n9;m0 1 0 9;m1 0 3 60;m5 0 3 60;");
        Due.due("carry(0, 0), 3, 7, 8 alike", more.carry(0, 0), 3);
    }

    private static void noCellInSixty() {
        Due.says(TERMS, "which; in how many; NONE.");
        CellNeighbours z = Due.told("n3;m1 0 3 60;m0 1 0 1;");
        Due.due("carry(1, 0), beside a hard one all over", z.carry(1, 0), NONE);
        Due.due("carry(1, 1), beside a hard one all over", z.carry(1, 1), NONE);
        CellNeighbours more = Due.told("n4;m1 0 3 60;m0 1 0 60;");
        Due.due("carry(1, 0), one cell more", more.carry(1, 0), 3);
        Due.due("carry(1, 1), one cell more, in 60", more.carry(1, 1), 60);
        // Held for five months in either of the cells.
        CellNeighbours edge = Due.told("n2;m0 1 0 55;m1 0 0 5;");
        Due.due("carry(0, 1), 60", edge.carry(0, 1), 60);
        CellNeighbours over = Due.told("n2;m0 1 0 56;m1 0 0 5;");
        Due.due("carry(0, 0), 61", over.carry(0, 0), NONE);
        Due.due("carry(0, 1), 61", over.carry(0, 1), NONE);
    }

    private static void theFirstWay() {
        Due.says(TERMS, "of several the first (by the lowest of the MEN, his CELL, then the next ..)");
        Due.liesAre(Due.told("n9;m8 0 0 9;m7 0 0 9;m5 0 0 9;m4 0 0 9;m2 0 0 9;m0 0 0 9;"), 48, 0, 2, 4, 5, 7, 8);
        // The snorer must lie apart, in 5; the others are alike, the lower of them has 0.
        Due.liesAre(Due.told("m5 0 3 9;m1 0 3 9;m0 1 0 9;"), 24, 0, 1, 5);
        // The first of the MEN has 0 before the last of them may have less.
        Due.liesAre(Due.told("n2;m1 0 0 9;m0 0 0 1;"), 8, 0, 1);
        // His CELL is the same in both ways, so the next one's is looked at.
        Due.liesAre(Due.told("m0 2 0 1;m1 0 0 9;m3 2 0 9;"), 0 + 8 + 5, 0, 3, 1);
        // YEARS that come to 0 fall no lower, so the soft one is worth more to the second singer.
        Due.liesAre(Due.told("m0 2 3 1;m1 2 3 20;m5 0 0 9;"), 0 + 16 + 8, 5, 0, 1);
        Due.liesAre(Due.told("m3 0 0 60;"), 59, 3);
        Due.liesAre(new CellNeighbours(), 0);
    }

    private static void whoIsNotIn() {
        Due.says(TERMS, "how many YEARS; the CELL of one; NONE (who is not IN)");
        CellNeighbours x = Due.told("m0 0 0 9;m1 0 0 1;m2 0 0 9;");
        x.month();
        // The cells of those who are IN alone, though cell 1 is empty now.
        Due.liesAre(x, 14, 0, NONE, 2);
        x.moves(0, 5);
        Due.liesAre(x, 14, 2, NONE, 5);
        CellNeighbours all = Due.told("m0 0 0 1;");
        all.month();
        Due.liesAre(all, 0, NONE);
    }

    private static void loudCells() {
        Due.says(TERMS, "to one whose CELL is LOUD CELLS from his at most");
        for (int loud = 1; loud <= 3; loud++) {
            String head = "n9;l" + loud + ";m0 0 0 9;m";
            Due.due("word(0, 1), as far as LOUD", Due.told(head + loud + " 0 0 9;").word(0, 1), 1);
            Due.due("word(1, 0), as far as LOUD", Due.told(head + loud + " 0 0 9;").word(1, 0), 1);
            Due.due("word(0, 1), farther", Due.told(head + (loud + 1) + " 0 0 9;").word(0, 1), NONE);
            Due.due("word(1, 0), farther", Due.told(head + (loud + 1) + " 0 0 9;").word(1, 0), NONE);
            // A row and no ring.
            Due.due("word(0, 1), the ends", Due.told(head + "8 0 0 9;").word(0, 1), NONE);
        }
        CellNeighbours row = Due.told("m0 0 0 9;m1 0 0 9;m2 0 0 9;m3 0 0 9;m4 0 0 9;m5 0 0 9;");
        Due.due("word(0, 5), the most tellings", row.word(0, 5), 5);
        Due.due("word(5, 0), the most tellings", row.word(5, 0), 5);
    }

    private static void noWord() {
        Due.says(TERMS, "at most; NONE.");
        CellNeighbours x = Due.told("n9;m0 0 0 9;m1 0 0 1;m2 0 0 9;");
        Due.due("word(0, 2), over him between", x.word(0, 2), 2);
        x.month();
        Due.due("word(0, 2), he is FREE", x.word(0, 2), NONE);
        x.moves(0, 3);
        Due.due("word(0, 2), moved", x.word(0, 2), 1);
    }

    private static void oddsOfTenths() {
        Due.says(TERMS, "ODDS for one by x (0 .. 10), n (0 .. 6)");
        // Silent he is FREE in a month; snoring beside HARD 0 he has as much as he had.
        CellNeighbours x = Due.told("m0 0 0 1;m1 0 0 60;");
        Due.oddsAre(x, 0, 0, 0, 0, 1);
        Due.oddsAre(x, 0, 10, 0, 0, 1);
        Due.oddsAre(x, 0, 0, 1, 1, 1);
        Due.oddsAre(x, 0, 10, 1, 0, 1);
        Due.oddsAre(x, 0, 1, 1, 9, 10);
        Due.oddsAre(x, 0, 9, 1, 1, 10);
        Due.oddsAre(x, 0, 0, 6, 1, 1);
        Due.oddsAre(x, 0, 10, 6, 0, 1);
        Due.oddsAre(x, 0, 1, 6, 999999, 1000000);
        Due.oddsAre(x, 0, 9, 6, 1000000 - 531441, 1000000);
        CellNeighbours six = Due.told("m0 0 0 6;m1 0 0 60;");
        Due.oddsAre(six, 0, 0, 5, 0, 1);
        Due.oddsAre(six, 0, 0, 6, 1, 1);
        Due.oddsAre(six, 0, 9, 6, 1, 1000000);
        Due.oddsAre(six, 0, 5, 6, 1, 64);
    }

    // ---- promises 12 to 17

    private static void brings() {
        Due.says("## Promise 12:", "BRINGS (0: he is FREE).");
        Due.due("brings(free)", Twins.rich().brings(Twins.FREED), 0);
        // Between two who would hear him: he is heard no more.
        CellNeighbours x = Due.told("m0 0 3 9;m1 3 3 1;m2 0 3 9;");
        x.month();
        Due.due("brings(1), free", x.brings(1), 0);
    }

    private static void bringsNo() {
        Due.says("## Promise 12:", "NO: BAD.");
        for (int m : NO_MEN) {
            Twins.changesNothing("brings(" + m + ")", Twins::rich, x -> x.brings(m), NO);
        }
        Due.due("brings(0) without men", new CellNeighbours().brings(0), NO);
    }

    private static void putsOn() {
        Due.says("## Promise 13:", "PUT ON: which (what = 0), in how many MONTHS (1); NONE.");
        CellNeighbours x = Due.told("m0 1 0 9;m1 0 0 60;");
        Due.due("putsOn(0, 0)", x.putsOn(0, 0), 2);
        Due.due("putsOn(0, 1)", x.putsOn(0, 1), 3);
    }

    private static void putsOnBad() {
        Due.says("## Promise 13:", "BAD");
        for (int m : NO_MEN) {
            Twins.changesNothing("putsOn(" + m + ", 0)", Twins::rich, x -> x.putsOn(m, 0), BAD);
            Twins.changesNothing("putsOn(" + m + ", 1)", Twins::rich, x -> x.putsOn(m, 1), BAD);
        }
        for (int what : NEITHER) {
            Twins.changesNothing("putsOn(0, " + what + ")", Twins::rich, x -> x.putsOn(0, what), BAD);
        }
    }

    private static void putsOnState() {
        Due.says("## Promise 13:", "STATE: he is FREE.");
        Twins.changesNothing("putsOn(free, 0)", Twins::rich, x -> x.putsOn(Twins.FREED, 0), STATE);
        Twins.changesNothing("putsOn(free, 1)", Twins::rich, x -> x.putsOn(Twins.FREED, 1), STATE);
    }

    private static void carry() {
        Due.says("## Promise 14:", "CARRY: which (what = 0), in how many MONTHS (1); NONE.");
        CellNeighbours x = Due.told("m0 1 0 9;m1 0 0 60;");
        Due.due("carry(0, 0)", x.carry(0, 0), 3);
        Due.due("carry(0, 1)", x.carry(0, 1), 9);
        CellNeighbours none = Due.told("n2;m0 1 0 9;m1 0 3 60;");
        Due.due("carry(0, 0), none", none.carry(0, 0), NONE);
        Due.due("carry(0, 1), none", none.carry(0, 1), NONE);
    }

    private static void carryBad() {
        Due.says("## Promise 14:", "BAD");
        for (int m : NO_MEN) {
            Twins.changesNothing("carry(" + m + ", 0)", Twins::rich, x -> x.carry(m, 0), BAD);
            Twins.changesNothing("carry(" + m + ", 1)", Twins::rich, x -> x.carry(m, 1), BAD);
        }
        for (int what : NEITHER) {
            Twins.changesNothing("carry(0, " + what + ")", Twins::rich, x -> x.carry(0, what), BAD);
        }
    }

    private static void carryState() {
        Due.says("## Promise 14:", "STATE: he is FREE.");
        Twins.changesNothing("carry(free, 0)", Twins::rich, x -> x.carry(Twins.FREED, 0), STATE);
        Twins.changesNothing("carry(free, 1)", Twins::rich, x -> x.carry(Twins.FREED, 1), STATE);
    }

    private static void lies() {
        Due.says("## Promise 15:", "LIE: the CELL of one; NONE.");
        Twins.changesNothing("lies(free)", Twins::rich, x -> x.lies(Twins.FREED), NONE);
        CellNeighbours x = Twins.rich();
        int cells = 0;
        for (int m = 0; m < 5; m++) {
            cells |= m == Twins.FREED ? 0 : 1 << x.lies(m);
        }
        Due.due("the cells of all who are IN", cells, 1 + 2 + 4 + 32);
    }

    private static void liesBad() {
        Due.says("## Promise 15:", "BAD");
        for (int m : NO_MEN) {
            Twins.changesNothing("lies(" + m + ")", Twins::rich, x -> x.lies(m), BAD);
        }
        Due.due("lies(0) without men", new CellNeighbours().lies(0), BAD);
    }

    private static void wordNone() {
        Due.says("## Promise 16:", "WORD; NONE (one of them is FREE, too).");
        Twins.changesNothing("word(free, 0)", Twins::rich, x -> x.word(Twins.FREED, 0), NONE);
        Twins.changesNothing("word(0, free)", Twins::rich, x -> x.word(0, Twins.FREED), NONE);
        CellNeighbours both = Due.told("m0 0 0 1;m1 0 0 1;");
        Due.due("word(0, 1)", both.word(0, 1), 1);
        both.month();
        Due.due("word(0, 1), both are FREE", both.word(0, 1), NONE);
        Due.due("word(0, 1), too far", Due.told("m0 0 0 1;m2 0 0 1;").word(0, 1), NONE);
    }

    private static void wordBad() {
        Due.says("## Promise 16:", "BAD (alike ones, too)");
        for (int m : NO_MEN) {
            Twins.changesNothing("word(" + m + ", 0)", Twins::rich, x -> x.word(m, 0), BAD);
            Twins.changesNothing("word(0, " + m + ")", Twins::rich, x -> x.word(0, m), BAD);
        }
        for (int m = 0; m < 5; m++) {
            int who = m;
            Twins.changesNothing("word(" + m + ", " + m + ")", Twins::rich, x -> x.word(who, who), BAD);
        }
    }

    private static void odds() {
        Due.says("## Promise 17:", "ODDS: upper (what = 0), lower number (1), in least terms.");
        CellNeighbours x = Due.told("m0 0 0 2;m1 0 0 60;");
        Due.oddsAre(x, 0, 5, 2, 1, 4);
        Due.oddsAre(x, 0, 5, 3, 1, 2);
        Due.oddsAre(x, 0, 4, 2, 9, 25);
        Due.oddsAre(x, 0, 3, 2, 49, 100);
        Due.oddsAre(x, 0, 5, 1, 0, 1);
        // Once FREE he stays so, and who is FREE is so for certain, of no month too.
        CellNeighbours once = Due.told("m0 0 0 1;m1 0 0 60;");
        Due.oddsAre(once, 0, 5, 6, 63, 64);
        once.month();
        Due.oddsAre(once, 0, 5, 6, 1, 1);
        Due.oddsAre(once, 0, 10, 0, 1, 1);
    }

    private static void oddsBad() {
        Due.says("## Promise 17:", "BAD");
        for (int m : NO_MEN) {
            Twins.changesNothing("odds(" + m + ", 5, 2, 0)", Twins::rich, x -> x.odds(m, 5, 2, 0), BAD);
        }
        for (int tenths : new int[] {Integer.MIN_VALUE, -1, 11, Integer.MAX_VALUE}) {
            Twins.changesNothing("odds(0, " + tenths + ", 2, 0)", Twins::rich, x -> x.odds(0, tenths, 2, 0), BAD);
            Twins.changesNothing("odds(free, " + tenths + ", 0, 1)", Twins::rich,
                x -> x.odds(Twins.FREED, tenths, 0, 1), BAD);
        }
        for (int n : new int[] {Integer.MIN_VALUE, -1, 7, 32, Integer.MAX_VALUE}) {
            Twins.changesNothing("odds(0, 5, " + n + ", 0)", Twins::rich, x -> x.odds(0, 5, n, 0), BAD);
        }
        for (int what : NEITHER) {
            Twins.changesNothing("odds(0, 5, 2, " + what + ")", Twins::rich, x -> x.odds(0, 5, 2, what), BAD);
        }
    }
}
