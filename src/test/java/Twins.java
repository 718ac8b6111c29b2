import java.util.List;

/**
 * Objects that were made and used alike: one of them is asked, the other isn't. What was
 * not to change is seen by what both answer from then on.
 */
final class Twins {
    interface Maker {
        CellNeighbours make();
    }

    interface Call {
        long on(CellNeighbours x);
    }

    private interface Probe {
        String of(CellNeighbours x);
    }

    /** Each changes what the next would look at, and 512 calls are few: so each has twins of its own. */
    private static final List<Probe> PROBES =
        List.of(Twins::looks, Twins::foresees, Twins::undoesAll, Twins::goesBack, Twins::reads, Twins::goesOn);

    private Twins() {
    }

    /** The call has that answer, and nothing changes by it. */
    static void changesNothing(String call, Maker maker, Call asked, long want) {
        for (Probe probe : PROBES) {
            CellNeighbours x = maker.make();
            Due.due(call, asked.on(x), want);
            String left = probe.of(maker.make());
            String right = probe.of(x);
            Due.holds("behind " + call + " all goes on as if it had not been asked: " + left + " / " + right,
                left.equals(right));
        }
    }

    /** Has all that a call could change: all of NOW, of the past, the images, the text, what is SEEN, a trace. */
    static CellNeighbours rich() {
        CellNeighbours x = Due.told("n7;l2;m0 1 3 10;m1 2 0 6;m2 4 2 20;m4 0 1 2;m6 3 0 40;");
        x.keep(0);
        x.month();
        x.month();
        x.keep(1);
        x.moves(4, 5);
        x.feigns(2, 0);
        x.sees(1, 2);
        x.sees(0, 0);
        x.rate(3, 1);
        Due.types(x, "n3;m2 ");
        return x;
    }

    /** The number in rich() of the one who is FREE. */
    static final int FREED = 3;

    private static String looks(CellNeighbours x) {
        return Due.all(x);
    }

    private static String foresees(CellNeighbours x) {
        StringBuilder seen = new StringBuilder();
        for (int m = 0; m < x.count(1); m++) {
            seen.append(x.brings(m)).append(' ').append(x.putsOn(m, 0)).append(' ').append(x.carry(m, 1)).append(' ');
            seen.append(x.lies(m)).append(' ').append(x.odds(m, 3, 6, 0)).append(' ').append(x.word(m, 0)).append(' ');
            seen.append(x.rate(m, m)).append(' ');
        }
        return seen.append(x.next()).append(' ').append(x.trace()).toString();
    }

    private static String brief(CellNeighbours x) {
        StringBuilder seen = new StringBuilder();
        for (int what = 0; what < 5; what++) {
            seen.append(x.now(what)).append(' ');
        }
        for (int m = 0; m < x.count(1); m++) {
            seen.append(x.man(m, 0)).append(' ').append(x.man(m, 1)).append(' ').append(x.man(m, 3)).append(' ');
        }
        return seen.toString();
    }

    private static String undoesAll(CellNeighbours x) {
        StringBuilder seen = new StringBuilder();
        for (int i = 0; i <= 10; i++) {
            seen.append(x.undo()).append(": ").append(brief(x));
        }
        return seen.toString();
    }

    private static String goesBack(CellNeighbours x) {
        return x.back(0) + ": " + brief(x) + x.back(1) + ": " + brief(x);
    }

    private static String reads(CellNeighbours x) {
        return x.gaol() + " " + x.type(' ') + " " + x.type('0') + " " + x.gaol() + ": " + Due.all(x);
    }

    private static String goesOn(CellNeighbours x) {
        StringBuilder seen = new StringBuilder();
        seen.append(x.month()).append(' ').append(x.undo()).append(' ').append(x.month()).append(' ').append(brief(x));
        seen.append(x.sees(1, 2)).append(' ').append(x.hards()).append(' ').append(x.sees(1, 3)).append(' ');
        seen.append(x.hards()).append(' ').append(x.forget()).append(' ').append(x.clear()).append(' ');
        return seen.append(x.rate(4, 0)).append(' ').append(x.trace()).toString();
    }
}
