/** Which refusal is the first where several are due, and how many calls an object is good for. */
final class RefusedBounds {
    private static final int BAD = CellNeighbours.BAD, STATE = CellNeighbours.STATE, NO = CellNeighbours.NO;
    private static final int FREED = Twins.FREED;

    private RefusedBounds() {
    }

    static void run() {
        badBeforeState();
        badBeforeFull();
        badBeforeNone();
        noWhereBelowNought();
        lastCall();
    }

    private static void badBeforeState() {
        Due.says("## Terms", "Refused, and nothing changes, the first of these:"
            + " BAD (a number is not as told, or there is no such thing), STATE (as told), FULL.");
        Twins.changesNothing("moves(free, 7)", Twins::rich, x -> x.moves(FREED, 7), BAD);
        Twins.changesNothing("moves(free, -1)", Twins::rich, x -> x.moves(FREED, -1), BAD);
        Twins.changesNothing("moves(5, 0), taken", Twins::rich, x -> x.moves(5, 0), BAD);
        Twins.changesNothing("feigns(free, 5)", Twins::rich, x -> x.feigns(FREED, 5), BAD);
        Twins.changesNothing("feigns(free, -1)", Twins::rich, x -> x.feigns(FREED, -1), BAD);
        Twins.changesNothing("putsOn(free, 2)", Twins::rich, x -> x.putsOn(FREED, 2), BAD);
        Twins.changesNothing("putsOn(free, -1)", Twins::rich, x -> x.putsOn(FREED, -1), BAD);
        Twins.changesNothing("carry(free, 2)", Twins::rich, x -> x.carry(FREED, 2), BAD);
        Twins.changesNothing("carry(free, -1)", Twins::rich, x -> x.carry(FREED, -1), BAD);
        Twins.changesNothing("back(2), none was kept", CellNeighbours::new, x -> x.back(2), BAD);
        Twins.changesNothing("back(-1), none was kept", CellNeighbours::new, x -> x.back(-1), BAD);
        Due.due("moves(free, 3), STATE then", Twins.rich().moves(FREED, 3), STATE);
    }

    private static CellNeighbours fullText() {
        CellNeighbours x = Twins.rich();
        Due.types(x, "0 0 9;" + " ".repeat(108));
        return x;
    }

    private static void badBeforeFull() {
        Due.says("## Terms", "BAD (a number is not as told, or there is no such thing), STATE (as told), FULL.");
        Due.due("count(4)", fullText().count(4), 120);
        Twins.changesNothing("type(-1), full", RefusedBounds::fullText, x -> x.type(-1), BAD);
        Twins.changesNothing("type(256), full", RefusedBounds::fullText, x -> x.type(256), BAD);
        Twins.changesNothing("sees(5, 0), full", HardBounds::full, x -> x.sees(5, 0), BAD);
        Twins.changesNothing("sees(-1, 0), full", HardBounds::full, x -> x.sees(-1, 0), BAD);
        Twins.changesNothing("sees(0, 5), full", HardBounds::full, x -> x.sees(0, 5), BAD);
        Twins.changesNothing("sees(0, -4), full", HardBounds::full, x -> x.sees(0, -4), BAD);
    }

    private static void badBeforeNone() {
        Due.says("## Terms", "there is no such thing");
        Due.due("word(free, free)", Twins.rich().word(FREED, FREED), BAD);
        Due.due("word(free, 5)", Twins.rich().word(FREED, 5), BAD);
        Due.due("word(5, free)", Twins.rich().word(5, FREED), BAD);
        // In a gaol without MEN there is none to ask for.
        CellNeighbours x = new CellNeighbours();
        Due.due("man(0, 5)", x.man(0, 5), BAD);
        Due.due("moves(0, 0)", x.moves(0, 0), BAD);
        Due.due("feigns(0, 0)", x.feigns(0, 0), BAD);
        Due.due("putsOn(0, 0)", x.putsOn(0, 0), BAD);
        Due.due("carry(0, 0)", x.carry(0, 0), BAD);
        Due.due("lies(0)", x.lies(0), BAD);
        Due.due("word(0, 1)", x.word(0, 1), BAD);
        Due.due("odds(0, 0, 0, 0)", x.odds(0, 0, 0, 0), BAD);
        // Those of an earlier gaol are none of this one.
        CellNeighbours y = Twins.rich();
        Due.reads(y, "m0 0 0 9;");
        Due.due("man(1, 0), told before", y.man(1, 0), BAD);
        Due.due("word(0, 1), told before", y.word(0, 1), BAD);
    }

    private static void noWhereBelowNought() {
        Due.says("## Terms", "`NO = -1000000`: What is BAD, where a number may be below 0.");
        Due.due("NO", NO, -1000000);
        CellNeighbours x = Due.told("n9;m8 0 0 7;");
        // -1 is an answer here.
        Due.due("brings(0)", x.brings(0), -1);
        Due.due("rate(2, 0)", x.rate(2, 0), -1);
        Due.due("brings(1)", x.brings(1), NO);
        Due.due("rate(2, 1)", x.rate(2, 1), NO);
        Due.due("rate(6, 0)", x.rate(6, 0), NO);
    }

    private static void lastCall() {
        Due.says("## What it is", "An object is used for at most 512 calls after it has been made");
        CellNeighbours x = new CellNeighbours();
        for (int i = 1; i <= 511; i++) {
            Due.due("month(), call " + i, x.month(), 0);
        }
        Due.due("now(0), call 512", x.now(0), 511);
        CellNeighbours y = new CellNeighbours();
        for (int i = 1; i <= 511; i++) {
            y.type(i % 7 == 0 ? -1 : ' ');
        }
        Due.due("gaol(), call 512", y.gaol(), 0);
    }
}
