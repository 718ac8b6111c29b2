/**
 * A gaol of cells in a row, whose men put figures to their neighbours' sounds.
 * The words of the comments are those of the document, ../shared/DOC.md.
 */
public final class CellNeighbours {
    public static final int BAD = -1, STATE = -2, FULL = -3, NONE = -9;
    public static final int NO = -1000000;

    private static final int MOST_LETTERS = 120;
    private static final int LEAST_CELLS = 2, MOST_CELLS = 9, FIRST_CELLS = 6;
    private static final int MOST_MEN = 6;
    private static final int SILENT = 0, SNORES = 1, SINGS = 2, TAPS = 3, SOUNDS = 5;
    private static final int HARDS = 4;
    private static final int MOST_YEARS = 60;
    private static final int FIRST_LOUD = 1, MOST_LOUD = 3;
    private static final int LAST_MONTH = 999;
    private static final int MONTHS_AHEAD = 60;
    private static final int MOST_UNDONE = 10;
    private static final int MOST_SEEN = 6, LEAST_FIGURE = -3, MOST_FIGURE = 4;
    private static final int TENTHS = 10, MOST_ODDS_MONTHS = 6;
    private static final int IMAGES = 2;
    private static final int KINDS = 6;
    private static final int WAYS = 720;

    private final Text text = new Text();
    private int loudness;
    private final Scene scene = new Scene();
    private final Scene trial = new Scene();
    private final Scene[] past = new Scene[MOST_UNDONE];
    private int pastCount;
    private final Scene[] images = new Scene[IMAGES];
    private final boolean[] kept = new boolean[IMAGES];
    private final Seen seen = new Seen();
    private final Lie lie = new Lie();
    private final Man[] kinds = new Man[KINDS];
    private final Tally tally = new Tally();

    public CellNeighbours() {
        loudness = FIRST_LOUD;
        for (int i = 0; i < MOST_UNDONE; i++) {
            past[i] = new Scene();
        }
        for (int i = 0; i < IMAGES; i++) {
            images[i] = new Scene();
        }
        kinds[0] = new Man();
        kinds[1] = new Thief();
        kinds[2] = new Boy();
        kinds[3] = new Lawyer();
        kinds[4] = new Pear();
        kinds[5] = new Warder();
    }

    // ---- the gaol

    public int type(int letter) {
        if (letter < 0 || letter > 255) {
            return BAD;
        }
        if (text.length >= MOST_LETTERS) {
            return FULL;
        }
        text.add(letter);
        return text.length;
    }

    public int clear() {
        int had = text.length;
        text.length = 0;
        return had;
    }

    public int gaol() {
        if (!text.isRead()) {
            return -10 - text.fault;
        }
        scene.copyFrom(text.draft);
        loudness = text.loudness;
        text.length = 0;
        seen.size = 0;
        pastCount = 0;
        for (int i = 0; i < IMAGES; i++) {
            kept[i] = false;
        }
        return text.items;
    }

    public int man(int m, int what) {
        if (!scene.hasMan(m)) {
            return BAD;
        }
        switch (what) {
            case 0:
                return scene.cellOf[m];
            case 1:
                return scene.soundOf[m];
            case 2:
                return scene.hardOf[m];
            case 3:
                return scene.yearsOf[m];
            case 4:
                return scene.neighbourBits(m);
            case 5:
                trial.copyFrom(scene);
                return trial.monthsTillFree(m);
            default:
                return BAD;
        }
    }

    public int cell(int c) {
        if (!scene.hasCell(c)) {
            return BAD;
        }
        return scene.whoIn(c);
    }

    public int now(int what) {
        switch (what) {
            case 0:
                return scene.monthsGone;
            case 1:
                return scene.bitsIn();
            case 2:
                return scene.yearsOfAll();
            case 3:
                lie.seek(scene);
                return lie.leastYears;
            case 4:
                return pastCount;
            default:
                return BAD;
        }
    }

    // ---- what is done

    public int month() {
        if (scene.monthsGone >= LAST_MONTH) {
            return STATE;
        }
        remember();
        return scene.passMonth();
    }

    public int moves(int m, int c) {
        if (!scene.hasMan(m) || !scene.hasCell(c)) {
            return BAD;
        }
        if (!scene.isIn(m) || scene.whoIn(c) != NONE) {
            return STATE;
        }
        int till = scene.cellOf[m];
        remember();
        scene.moveTo(m, c);
        return till;
    }

    public int feigns(int m, int sound) {
        if (!scene.hasMan(m) || !isSound(sound)) {
            return BAD;
        }
        if (!scene.isIn(m) || scene.soundOf[m] == sound) {
            return STATE;
        }
        int till = scene.soundOf[m];
        remember();
        scene.soundOf[m] = sound;
        return till;
    }

    public int undo() {
        if (pastCount <= 0) {
            return STATE;
        }
        pastCount--;
        scene.copyFrom(past[pastCount]);
        return pastCount;
    }

    // ---- what comes

    public int brings(int m) {
        if (!scene.hasMan(m)) {
            return NO;
        }
        if (!scene.isIn(m)) {
            return 0;
        }
        return scene.yearsAfter(m) - scene.yearsOf[m];
    }

    public int putsOn(int m, int what) {
        if (!scene.hasMan(m) || !isWhichOrMonths(what)) {
            return BAD;
        }
        if (!scene.isIn(m)) {
            return STATE;
        }
        int which = NONE;
        int soonest = NONE;
        for (int sound = 0; sound < SOUNDS; sound++) {
            int months = monthsIfFeigned(m, sound);
            if (isSooner(months, soonest)) {
                which = sound;
                soonest = months;
            }
        }
        return what == 0 ? which : soonest;
    }

    public int carry(int m, int what) {
        if (!scene.hasMan(m) || !isWhichOrMonths(what)) {
            return BAD;
        }
        if (!scene.isIn(m)) {
            return STATE;
        }
        int which = NONE;
        int soonest = NONE;
        for (int c = 0; c < scene.cells; c++) {
            int months = monthsIfMoved(m, c);
            if (isSooner(months, soonest)) {
                which = c;
                soonest = months;
            }
        }
        return what == 0 ? which : soonest;
    }

    public int lies(int m) {
        if (!scene.hasMan(m)) {
            return BAD;
        }
        lie.seek(scene);
        return lie.bestCellOf(m);
    }

    public int word(int a, int b) {
        if (!scene.hasMan(a) || !scene.hasMan(b) || a == b) {
            return BAD;
        }
        if (!scene.isIn(a) || !scene.isIn(b)) {
            return NONE;
        }
        int told = 1 << a;
        for (int tellings = 1; tellings < MOST_MEN; tellings++) {
            told = scene.toldOn(told, loudness);
            if ((told >> b & 1) == 1) {
                return tellings;
            }
        }
        return NONE;
    }

    public int odds(int m, int x, int n, int what) {
        boolean fits = x >= 0 && x <= TENTHS && n >= 0 && n <= MOST_ODDS_MONTHS;
        if (!scene.hasMan(m) || !fits || !isWhichOrMonths(what)) {
            return BAD;
        }
        int upper = 0;
        for (int snored = 0; snored < 1 << n; snored++) {
            if (isFreeBehind(m, snored, n)) {
                upper += weight(x, n, Integer.bitCount(snored));
            }
        }
        int lower = power(TENTHS, n);
        int shared = commonDivisor(upper, lower);
        int asked = what == 0 ? upper : lower;
        return shared > 0 ? asked / shared : asked;
    }

    // ---- how hard

    public int sees(int sound, int v) {
        if (!isSound(sound) || v < LEAST_FIGURE || v > MOST_FIGURE) {
            return BAD;
        }
        if (seen.size >= MOST_SEEN) {
            return FULL;
        }
        seen.add(sound, v);
        return seen.size;
    }

    public int forget() {
        int was = seen.size;
        seen.size = 0;
        return was;
    }

    public int hards() {
        return seen.hardBits();
    }

    public int next() {
        return seen.soundToTry();
    }

    // ---- kinds, images

    public int rate(int kind, int m) {
        if (kind < 0 || kind >= KINDS || !scene.hasMan(m)) {
            return NO;
        }
        return kinds[kind].worth(scene, m, tally);
    }

    public int keep(int image) {
        if (!isImage(image)) {
            return BAD;
        }
        images[image].copyFrom(scene);
        kept[image] = true;
        return scene.monthsGone;
    }

    public int back(int image) {
        if (!isImage(image)) {
            return BAD;
        }
        if (!kept[image]) {
            return STATE;
        }
        scene.copyFrom(images[image]);
        pastCount = 0;
        return scene.monthsGone;
    }

    public int count(int what) {
        switch (what) {
            case 0:
                return scene.cells;
            case 1:
                return scene.men;
            case 2:
                return loudness;
            case 3:
                return seen.size;
            case 4:
                return text.length;
            default:
                return BAD;
        }
    }

    public long trace() {
        return tally.sum;
    }

    // ---- helpers

    private static boolean isSound(int sound) {
        return sound >= 0 && sound < SOUNDS;
    }

    private static boolean isImage(int image) {
        return image >= 0 && image < IMAGES;
    }

    /** Those who ask for a pair of answers say by 0 or 1 which of the two. */
    private static boolean isWhichOrMonths(int what) {
        return what == 0 || what == 1;
    }

    private static boolean isSooner(int months, int soonest) {
        return months != NONE && (soonest == NONE || months < soonest);
    }

    /** What one of that HARD puts to a SOUND. */
    private static int figure(int hard, int sound) {
        switch (sound) {
            case SILENT:
                return 0;
            case SNORES:
                return hard + 1;
            case SINGS:
                return hard - 3;
            case TAPS:
                return -1;
            default:
                return hard - 1;
        }
    }

    private static int withinYears(int years) {
        return Math.max(0, Math.min(MOST_YEARS, years));
    }

    /** Keeps NOW for undo(); the oldest one's place is used again when all are taken. */
    private void remember() {
        if (pastCount >= MOST_UNDONE) {
            Scene oldest = past[0];
            for (int i = 1; i < MOST_UNDONE; i++) {
                past[i - 1] = past[i];
            }
            past[MOST_UNDONE - 1] = oldest;
            pastCount = MOST_UNDONE - 1;
        }
        past[pastCount].copyFrom(scene);
        pastCount++;
    }

    private int monthsIfFeigned(int m, int sound) {
        trial.copyFrom(scene);
        trial.soundOf[m] = sound;
        return trial.monthsTillFree(m);
    }

    private int monthsIfMoved(int m, int c) {
        int who = scene.whoIn(c);
        if (who != NONE && who != m) {
            return NONE;
        }
        trial.copyFrom(scene);
        trial.moveTo(m, c);
        return trial.monthsTillFree(m);
    }

    /** Whether he is FREE behind n MONTHS, snoring in those whose bits are set. */
    private boolean isFreeBehind(int m, int snored, int n) {
        trial.copyFrom(scene);
        for (int i = 0; i < n && trial.isIn(m); i++) {
            boolean snores = (snored >> i & 1) == 1;
            trial.soundOf[m] = snores ? SNORES : scene.soundOf[m];
            trial.passMonth();
        }
        return !trial.isIn(m);
    }

    /** Of 10 to the n, how many fall to one choice of months with that many snored. */
    private static int weight(int x, int n, int snoredCount) {
        return power(x, snoredCount) * power(TENTHS - x, n - snoredCount);
    }

    private static int power(int base, int exponent) {
        int product = 1;
        for (int i = 0; i < exponent; i++) {
            product *= base;
        }
        return product;
    }

    private static int commonDivisor(int a, int b) {
        int larger = a;
        int smaller = b;
        for (int i = 0; i < 64 && smaller != 0; i++) {
            int rest = larger % smaller;
            larger = smaller;
            smaller = rest;
        }
        return larger;
    }

    /** NOW, or another time: the row of CELLS and the MEN. */
    private static final class Scene {
        int cells;
        int men;
        int monthsGone;
        /** NONE for one who is FREE. */
        final int[] cellOf = new int[MOST_MEN];
        final int[] soundOf = new int[MOST_MEN];
        final int[] hardOf = new int[MOST_MEN];
        final int[] yearsOf = new int[MOST_MEN];
        /** The other side of cellOf: NONE for a CELL that is empty. */
        final int[] inCell = new int[MOST_CELLS];

        Scene() {
            makeEmpty();
        }

        void makeEmpty() {
            cells = FIRST_CELLS;
            men = 0;
            monthsGone = 0;
            for (int c = 0; c < MOST_CELLS; c++) {
                inCell[c] = NONE;
            }
        }

        void copyFrom(Scene other) {
            cells = other.cells;
            men = other.men;
            monthsGone = other.monthsGone;
            System.arraycopy(other.cellOf, 0, cellOf, 0, MOST_MEN);
            System.arraycopy(other.soundOf, 0, soundOf, 0, MOST_MEN);
            System.arraycopy(other.hardOf, 0, hardOf, 0, MOST_MEN);
            System.arraycopy(other.yearsOf, 0, yearsOf, 0, MOST_MEN);
            System.arraycopy(other.inCell, 0, inCell, 0, MOST_CELLS);
        }

        /** Whether the same LIE is due to both: it hangs on the MEN alone. */
        boolean liesLike(Scene other) {
            if (men != other.men) {
                return false;
            }
            for (int m = 0; m < men; m++) {
                boolean likeLying = cellOf[m] == other.cellOf[m] && yearsOf[m] == other.yearsOf[m];
                boolean likeMan = soundOf[m] == other.soundOf[m] && hardOf[m] == other.hardOf[m];
                if (!likeLying || !likeMan) {
                    return false;
                }
            }
            return true;
        }

        boolean hasMan(int m) {
            return m >= 0 && m < men;
        }

        boolean hasCell(int c) {
            return c >= 0 && c < cells;
        }

        boolean isIn(int m) {
            return cellOf[m] != NONE;
        }

        /** NONE beyond the ends of the row, too. */
        int whoIn(int c) {
            return hasCell(c) ? inCell[c] : NONE;
        }

        void addMan(int c, int sound, int hard, int years) {
            if (men >= MOST_MEN || !hasCell(c)) {
                return;
            }
            cellOf[men] = c;
            soundOf[men] = sound;
            hardOf[men] = hard;
            yearsOf[men] = years;
            inCell[c] = men;
            men++;
        }

        void leaveCell(int m) {
            int c = cellOf[m];
            if (hasCell(c)) {
                inCell[c] = NONE;
            }
            cellOf[m] = NONE;
        }

        void moveTo(int m, int c) {
            if (hasCell(c)) {
                leaveCell(m);
                cellOf[m] = c;
                inCell[c] = m;
            }
        }

        int figureFrom(int c, int sound) {
            int who = whoIn(c);
            return who == NONE ? 0 : figure(hardOf[who], sound);
        }

        int yearsAfter(int m) {
            int c = cellOf[m];
            int sound = soundOf[m];
            return withinYears(yearsOf[m] - 1 + figureFrom(c - 1, sound) + figureFrom(c + 1, sound));
        }

        /** Answers how many become FREE. */
        int passMonth() {
            // No figure hangs on YEARS, so they may change one by one; the CELLS only behind all.
            for (int m = 0; m < men; m++) {
                if (isIn(m)) {
                    yearsOf[m] = yearsAfter(m);
                }
            }
            int freed = 0;
            for (int m = 0; m < men; m++) {
                if (isIn(m) && yearsOf[m] == 0) {
                    leaveCell(m);
                    freed++;
                }
            }
            monthsGone++;
            return freed;
        }

        /** OUT; the months go by here, so it is asked of a trial alone. */
        int monthsTillFree(int m) {
            for (int gone = 0; gone <= MONTHS_AHEAD; gone++) {
                if (!isIn(m)) {
                    return gone;
                }
                passMonth();
            }
            return NONE;
        }

        int bitsIn() {
            int bits = 0;
            for (int m = 0; m < men; m++) {
                if (isIn(m)) {
                    bits |= 1 << m;
                }
            }
            return bits;
        }

        int yearsOfAll() {
            int sum = 0;
            for (int m = 0; m < men; m++) {
                sum += yearsOf[m];
            }
            return sum;
        }

        int neighbourBits(int m) {
            if (!isIn(m)) {
                return 0;
            }
            return bitOf(whoIn(cellOf[m] - 1)) | bitOf(whoIn(cellOf[m] + 1));
        }

        static int bitOf(int who) {
            return who == NONE ? 0 : 1 << who;
        }

        /** Those who know it (bits) when each of those told has told all in his reach. */
        int toldOn(int told, int reach) {
            int more = told;
            for (int from = 0; from < men; from++) {
                if ((told >> from & 1) == 1) {
                    more |= bitsWithin(from, reach);
                }
            }
            return more;
        }

        int bitsWithin(int from, int reach) {
            int bits = 0;
            for (int c = cellOf[from] - reach; c <= cellOf[from] + reach; c++) {
                bits |= bitOf(whoIn(c));
            }
            return bits;
        }
    }

    /** THE TEXT, read token by token into a draft that is used only if there is no FAULT. */
    private static final class Text {
        private static final int END = 0, NUMBER = 1, STRANGE = 2;
        private static final int NO_FAULT = -1;

        int length;
        private final int[] letters = new int[MOST_LETTERS];
        final Scene draft = new Scene();
        int loudness;
        int items;
        int fault;
        private int place;
        private boolean loudTold;
        /** END, NUMBER, STRANGE, or the letter that the token is. */
        private int token;
        private int tokenPlace;
        private int number;

        void add(int letter) {
            if (length < MOST_LETTERS) {
                letters[length] = letter;
                length++;
            }
        }

        /** Whether it tells a gaol: then draft, loudness and items do, else fault. */
        boolean isRead() {
            place = 0;
            draft.makeEmpty();
            loudness = FIRST_LOUD;
            loudTold = false;
            items = 0;
            fault = NO_FAULT;
            advance();
            for (int i = 0; i <= MOST_LETTERS && fault == NO_FAULT && token != END; i++) {
                readItem();
            }
            return fault == NO_FAULT;
        }

        private void readItem() {
            if (token == 'n' && items == 0) {
                advance();
                draft.cells = takeNumber(LEAST_CELLS, MOST_CELLS);
            } else if (token == 'm' && draft.men < MOST_MEN) {
                advance();
                readMan();
            } else if (token == 'l' && !loudTold) {
                advance();
                loudness = takeNumber(FIRST_LOUD, MOST_LOUD);
                loudTold = true;
            } else {
                refuse();
            }
            takeEnd();
        }

        private void readMan() {
            boolean isTaken = token == NUMBER && draft.whoIn(number) != NONE;
            if (isTaken) {
                refuse();
            }
            int c = takeNumber(0, draft.cells - 1);
            int sound = takeNumber(0, SOUNDS - 1);
            int hard = takeNumber(0, HARDS - 1);
            int years = takeNumber(1, MOST_YEARS);
            if (fault == NO_FAULT) {
                draft.addMan(c, sound, hard, years);
            }
        }

        /** The number that stands here; behind a FAULT it does not matter which. */
        private int takeNumber(int least, int most) {
            boolean fits = token == NUMBER && number >= least && number <= most;
            if (!fits) {
                refuse();
            }
            if (fault != NO_FAULT) {
                return least;
            }
            int taken = number;
            advance();
            return taken;
        }

        private void takeEnd() {
            if (token != ';') {
                refuse();
            }
            if (fault == NO_FAULT) {
                items++;
                advance();
            }
        }

        /** The first FAULT stands. */
        private void refuse() {
            if (fault == NO_FAULT) {
                fault = tokenPlace;
            }
        }

        private void advance() {
            while (place < length && letters[place] == ' ') {
                place++;
            }
            tokenPlace = place;
            number = 0;
            while (place < length && isDigit(letters[place])) {
                // A third digit is refused below, so what a long row comes to does not matter.
                number = number * 10 + letters[place] - '0';
                place++;
            }
            if (place > tokenPlace) {
                token = isPlainNumber() ? NUMBER : STRANGE;
            } else if (place < length) {
                token = isKnownLetter(letters[place]) ? letters[place] : STRANGE;
                place++;
            } else {
                token = END;
            }
        }

        /** 99 at most, and no 0 ahead of others. */
        private boolean isPlainNumber() {
            int digits = place - tokenPlace;
            return digits == 1 || digits == 2 && letters[tokenPlace] != '0';
        }

        private static boolean isKnownLetter(int letter) {
            return letter == 'n' || letter == 'm' || letter == 'l' || letter == ';';
        }

        private static boolean isDigit(int letter) {
            return letter >= '0' && letter <= '9';
        }
    }

    /** What an unknown one was SEEN to put to SOUNDS. */
    private static final class Seen {
        int size;
        private final int[] sounds = new int[MOST_SEEN];
        private final int[] figures = new int[MOST_SEEN];

        void add(int sound, int v) {
            if (size < MOST_SEEN) {
                sounds[size] = sound;
                figures[size] = v;
                size++;
            }
        }

        int hardBits() {
            int bits = 0;
            for (int hard = 0; hard < HARDS; hard++) {
                if (isSo(hard)) {
                    bits |= 1 << hard;
                }
            }
            return bits;
        }

        private boolean isSo(int hard) {
            for (int i = 0; i < size; i++) {
                if (figure(hard, sounds[i]) != figures[i]) {
                    return false;
                }
            }
            return true;
        }

        int soundToTry() {
            int bits = hardBits();
            if (Integer.bitCount(bits) <= 1) {
                return NONE;
            }
            int which = NONE;
            int least = HARDS + 1;
            for (int sound = 0; sound < SOUNDS; sound++) {
                int alike = mostAlike(bits, sound);
                if (alike < least) {
                    which = sound;
                    least = alike;
                }
            }
            return which;
        }

        private static int mostAlike(int bits, int sound) {
            int most = 0;
            for (int hard = 0; hard < HARDS; hard++) {
                if ((bits >> hard & 1) == 1) {
                    most = Math.max(most, countAlike(bits, sound, figure(hard, sound)));
                }
            }
            return most;
        }

        private static int countAlike(int bits, int sound, int put) {
            int alike = 0;
            for (int hard = 0; hard < HARDS; hard++) {
                if ((bits >> hard & 1) == 1 && figure(hard, sound) == put) {
                    alike++;
                }
            }
            return alike;
        }
    }

    /** How all should lie. All ways are tried, the first one first, so that the first of the best stays. */
    private static final class Lie {
        int leastYears;
        /** What was sought last: seven calls ask it of the same NOW. */
        private final Scene sought = new Scene();
        private boolean isSought;
        private int size;
        private final int[] men = new int[MOST_MEN];
        private final int[] way = new int[MOST_MEN];
        private final int[] bestWay = new int[MOST_MEN];
        /** At i * MOST_MEN + j: what the j-th who is IN puts to the i-th one's SOUND. */
        private final int[] puts = new int[MOST_MEN * MOST_MEN];
        /** Which of those IN has a CELL; NONE. */
        private final int[] inCell = new int[MOST_CELLS];

        void seek(Scene scene) {
            if (isSought && sought.liesLike(scene)) {
                return;
            }
            sought.copyFrom(scene);
            isSought = true;
            gather();
            leastYears = yearsBehind();
            System.arraycopy(way, 0, bestWay, 0, MOST_MEN);
            for (int i = 1; i < WAYS && turnsToNextWay(); i++) {
                int years = yearsBehind();
                if (years < leastYears) {
                    leastYears = years;
                    System.arraycopy(way, 0, bestWay, 0, MOST_MEN);
                }
            }
        }

        int bestCellOf(int m) {
            for (int i = 0; i < size; i++) {
                if (men[i] == m) {
                    return bestWay[i];
                }
            }
            return NONE;
        }

        /** The first way is the CELLS in their order. */
        private void gather() {
            size = 0;
            for (int m = 0; m < sought.men; m++) {
                if (sought.isIn(m)) {
                    men[size] = m;
                    size++;
                }
            }
            int taken = 0;
            for (int c = 0; c < MOST_CELLS; c++) {
                inCell[c] = NONE;
                if (sought.whoIn(c) != NONE && taken < size) {
                    way[taken] = c;
                    taken++;
                }
            }
            for (int i = 0; i < size; i++) {
                for (int j = 0; j < size; j++) {
                    puts[i * MOST_MEN + j] = figure(sought.hardOf[men[j]], sought.soundOf[men[i]]);
                }
            }
        }

        private int yearsBehind() {
            for (int i = 0; i < size; i++) {
                inCell[way[i]] = i;
            }
            int sum = 0;
            for (int i = 0; i < size; i++) {
                int put = putFrom(way[i] - 1, i) + putFrom(way[i] + 1, i);
                sum += withinYears(sought.yearsOf[men[i]] - 1 + put);
            }
            return sum;
        }

        private int putFrom(int c, int i) {
            if (c < 0 || c >= MOST_CELLS || inCell[c] == NONE) {
                return 0;
            }
            return puts[i * MOST_MEN + inCell[c]];
        }

        /** The next order of the same CELLS, by the lowest man's first; false behind the last. */
        private boolean turnsToNextWay() {
            int i = size - 2;
            while (i >= 0 && way[i] > way[i + 1]) {
                i--;
            }
            if (i < 0) {
                return false;
            }
            int j = size - 1;
            while (j > i && way[j] < way[i]) {
                j--;
            }
            swap(i, j);
            for (int low = i + 1, high = size - 1; low < high; low++, high--) {
                swap(low, high);
            }
            return true;
        }

        private void swap(int i, int j) {
            int c = way[i];
            way[i] = way[j];
            way[j] = c;
        }
    }

    /** THE TRACE: it stands apart from all that can be UNDONE. */
    private static final class Tally {
        long sum;
    }

    private static class Man {
        int worth(Scene scene, int m, Tally tally) {
            tally.sum += 1;
            return scene.yearsOf[m];
        }
    }

    private static class Thief extends Man {
        int worth(Scene scene, int m, Tally tally) {
            tally.sum += 10;
            return super.worth(scene, m, tally) + scene.hardOf[m];
        }
    }

    private static class Boy extends Man {
        int worth(Scene scene, int m, Tally tally) {
            tally.sum += 100;
            int c = scene.isIn(m) ? scene.cellOf[m] : 0;
            return super.worth(scene, m, tally) - c;
        }
    }

    private static final class Lawyer extends Thief {
        int worth(Scene scene, int m, Tally tally) {
            tally.sum += 1000;
            return 2 * super.worth(scene, m, tally);
        }
    }

    private static final class Pear extends Boy {
        int worth(Scene scene, int m, Tally tally) {
            tally.sum += 10000;
            return super.worth(scene, m, tally) + m;
        }
    }

    private static final class Warder extends Man {
        int worth(Scene scene, int m, Tally tally) {
            tally.sum += 100000;
            return super.worth(scene, m, tally) + scene.monthsGone;
        }
    }
}
