/**
 * Notes printed as money: series dealt to presses, their checks, what is printed and spoiled, and the stars
 * that stand for spoiled notes. The words that the document has in capitals keep their sense here.
 *
 * All rows are made once, in the constructor: no call makes an object.
 */
public final class NotePress {
    public static final int BAD = -1, NO = -2, FULL = -3, NONE = -4, STAR = 1000;

    private static final int MOST_PRESSES = 4;
    private static final int MOST_PLACES = 8;
    private static final int MOST_SERIES = 3;
    private static final int MOST_SHEETS = 40;
    private static final int MOST_NOTES = 999;
    private static final int HIGHEST_NUMBER = 999;
    private static final int HIGHEST_CHECK = 99;
    private static final int HIGHEST_KIND = 2;
    private static final int HIGHEST_LETTER = 26;
    private static final int MOST_STARS = 99;
    private static final int STARS_UNLESS_TOLD = 20;
    private static final int LONGEST_TEXT = 200;
    private static final int MOST_UNDONE = 6;
    private static final int PACK_SIZE = 10;
    private static final String FIRST_TEXT = "p4;p2;sa,0,10,5;sc,1,3,9;se,2,6,0;z12;";

    private final Text text;
    private final Stars stars;
    private final Changes changes;
    private Plan laid;
    private Plan draft;

    public NotePress() {
        text = new Text();
        stars = new Stars();
        changes = new Changes();
        laid = new Plan();
        draft = new Plan();
        for (int i = 0; i < FIRST_TEXT.length(); i++) {
            text.append(FIRST_TEXT.charAt(i));
        }
        layText();
        text.clear();
    }

    // ---- told

    public int write(int letter) {
        if (!isFromTo(letter, 32, 126)) {
            return BAD;
        }
        return text.append(letter) ? text.length : FULL;
    }

    public int wipe() {
        int was = text.length;
        text.clear();
        return was;
    }

    public int fault() {
        return text.readInto(draft);
    }

    public int lay() {
        return layText() ? laid.seriesTold : NO;
    }

    // ---- printed

    public int run(int s, int press, int n) {
        Share share = laid.shareAt(s, press);
        if (share == null || !isFromTo(n, 1, MOST_SHEETS)) {
            return BAD;
        }
        if (n > share.sheetsLeft()) {
            return NO;
        }
        share.sheetsRun += n;
        changes.rememberRun(share, n);
        return n * share.places;
    }

    public int spoil(int s, int number) {
        Series series = laid.seriesAt(s);
        if (series == null || !series.hasNumber(number)) {
            return BAD;
        }
        if (!series.isPrinted(number) || stars.standsFor(s, number)) {
            return NO;
        }
        if (stars.left() < 1) {
            return FULL;
        }
        stars.standFor(s, number);
        changes.rememberSpoiled(1);
        return stars.standing - 1;
    }

    public int spoilSheet(int s, int press, int sheet) {
        Share share = laid.shareAt(s, press);
        if (share == null || !share.hasSheet(sheet)) {
            return BAD;
        }
        int unspoiled = unspoiledOfSheet(s, share, sheet);
        if (sheet >= share.sheetsRun || unspoiled == 0) {
            return NO;
        }
        if (stars.left() < unspoiled) {
            return FULL;
        }
        for (int place = 0; place < share.places; place++) {
            int number = share.numberAt(sheet, place);
            if (!stars.standsFor(s, number)) {
                stars.standFor(s, number);
            }
        }
        changes.rememberSpoiled(unspoiled);
        return unspoiled;
    }

    public int undo() {
        if (changes.kept < 1) {
            return NO;
        }
        Share share = changes.latestShare();
        int amount = changes.latestAmount();
        if (share == null) {
            stars.takeBack(amount);
        } else {
            share.sheetsRun -= amount;
        }
        changes.forgetLatest();
        return changes.kept;
    }

    // ---- numbers

    public int series(int s, int what) {
        Series series = laid.seriesAt(s);
        if (series == null) {
            return BAD;
        }
        switch (what) {
            case 0: return series.letter;
            case 1: return series.kind;
            case 2: return series.notes;
            case 3: return series.notesPrinted();
            case 4: return stars.standingForSeries(s);
            case 5: return series.sheetsLeft();
            case 6: return series.packs();
            case 7: return series.wholePacks();
            default: return BAD;
        }
    }

    public int share(int s, int press, int what) {
        Share share = laid.shareAt(s, press);
        if (share == null) {
            return BAD;
        }
        switch (what) {
            case 0: return share.sheets;
            case 1: return share.sheetsRun;
            case 2: return share.first;
            case 3: return share.places;
            default: return BAD;
        }
    }

    public int where(int s, int number, int what) {
        Series series = laid.seriesAt(s);
        if (series == null) {
            return BAD;
        }
        int press = series.pressOf(number);
        Share share = series.shareAt(press);
        if (share == null) {
            return BAD;
        }
        switch (what) {
            case 0: return press;
            case 1: return share.sheetOf(number);
            case 2: return share.placeOf(number);
            default: return BAD;
        }
    }

    public int number(int s, int press, int sheet, int place) {
        Share share = laid.shareAt(s, press);
        if (share == null || !share.hasSheet(sheet) || !isFromTo(place, 0, share.places - 1)) {
            return BAD;
        }
        return share.numberAt(sheet, place);
    }

    public int check(int s, int number) {
        Series series = laid.seriesAt(s);
        if (series == null || !isFromTo(number, 0, HIGHEST_NUMBER)) {
            return BAD;
        }
        return Checks.ofNumber(series.kind, series.letter, number);
    }

    public int missed(int s, int number, int what) {
        Series series = laid.seriesAt(s);
        if (series == null || !isFromTo(number, 0, HIGHEST_NUMBER)) {
            return BAD;
        }
        switch (what) {
            case 0: return Checks.missedFigures(series.kind, series.letter, number);
            case 1: return Checks.missedSwaps(series.kind, series.letter, number);
            default: return BAD;
        }
    }

    public int note(int s, int number) {
        Series series = laid.seriesAt(s);
        if (series == null || !series.hasNumber(number)) {
            return BAD;
        }
        if (!series.isPrinted(number)) {
            return 0;
        }
        return stars.standsFor(s, number) ? 2 : 1;
    }

    // ---- stars, packs

    public int star(int k, int what) {
        if (!isFromTo(k, 0, stars.told - 1)) {
            return BAD;
        }
        switch (what) {
            case 0: return stars.seriesOf(k);
            case 1: return stars.numberOf(k);
            case 2: return Checks.ofStar(k);
            default: return BAD;
        }
    }

    public int starOf(int s, int number) {
        Series series = laid.seriesAt(s);
        if (series == null || !series.hasNumber(number)) {
            return BAD;
        }
        return stars.standingFor(s, number);
    }

    public int judge(int letter, int number, int check) {
        if (!isFromTo(letter, 0, HIGHEST_LETTER) || !isFromTo(number, 0, HIGHEST_NUMBER)
                || !isFromTo(check, 0, HIGHEST_CHECK)) {
            return BAD;
        }
        return letter == 0 ? judgeStar(number, check) : judgeNote(letter, number, check);
    }

    public int pack(int s, int k, int i) {
        Series series = laid.seriesAt(s);
        if (series == null || !isFromTo(k, 0, series.packs() - 1) || !isFromTo(i, 0, PACK_SIZE - 1)) {
            return BAD;
        }
        if (!series.isWhole(k)) {
            return NO;
        }
        int number = PACK_SIZE * k + i;
        if (!series.hasNumber(number)) {
            return NONE;
        }
        int star = stars.standingFor(s, number);
        return star == NONE ? number : STAR + star;
    }

    public int count(int what) {
        switch (what) {
            case 0: return laid.pressesTold;
            case 1: return laid.seriesTold;
            case 2: return stars.told;
            case 3: return stars.standing;
            case 4: return laid.notesPrinted();
            case 5: return stars.standing;
            case 6: return laid.sheetsRun();
            case 7: return laid.wholePacks();
            case 8: return changes.kept;
            case 9: return text.length;
            default: return BAD;
        }
    }

    // ---- what the calls share

    private static boolean isFromTo(int value, int lowest, int highest) {
        return value >= lowest && value <= highest;
    }

    private boolean layText() {
        if (text.readInto(draft) != NONE || draft.seriesTold < 1) {
            return false;
        }
        Plan before = laid;
        laid = draft;
        draft = before;
        stars.begin(laid.starsTold);
        changes.clear();
        return true;
    }

    private int unspoiledOfSheet(int s, Share share, int sheet) {
        int unspoiled = 0;
        for (int place = 0; place < share.places; place++) {
            if (!stars.standsFor(s, share.numberAt(sheet, place))) {
                unspoiled++;
            }
        }
        return unspoiled;
    }

    private int judgeStar(int k, int check) {
        if (k >= stars.told) {
            return 2;
        }
        if (check != Checks.ofStar(k)) {
            return 3;
        }
        return k >= stars.standing ? 4 : 0;
    }

    private int judgeNote(int letter, int number, int check) {
        int s = laid.seriesOfLetter(letter);
        Series series = laid.seriesAt(s);
        if (series == null) {
            return 1;
        }
        if (!series.hasNumber(number)) {
            return 2;
        }
        if (check != Checks.ofNumber(series.kind, series.letter, number)) {
            return 3;
        }
        if (!series.isPrinted(number)) {
            return 4;
        }
        return stars.standsFor(s, number) ? 5 : 0;
    }

    /** What one press prints of one series. */
    private static final class Share {
        private int places;
        private int sheets;
        private int first;
        private int sheetsRun;

        void begin(int placesTold, int sheetsTold, int firstNumber) {
            places = placesTold;
            sheets = sheetsTold;
            first = firstNumber;
            sheetsRun = 0;
        }

        int sheetsLeft() {
            return sheets - sheetsRun;
        }

        boolean hasSheet(int sheet) {
            return isFromTo(sheet, 0, sheets - 1);
        }

        boolean hasNumber(int number) {
            return number >= first && number < first + places * sheets;
        }

        int numberAt(int sheet, int place) {
            return first + place * sheets + sheet;
        }

        int sheetOf(int number) {
            return sheets < 1 ? NONE : (number - first) % sheets;
        }

        int placeOf(int number) {
            return sheets < 1 ? NONE : (number - first) / sheets;
        }
    }

    /** A series with its shares, one for each press told. */
    private static final class Series {
        private final Share[] shares = new Share[MOST_PRESSES];
        private int presses;
        private int letter;
        private int kind;
        private int notes;

        Series() {
            for (int press = 0; press < MOST_PRESSES; press++) {
                shares[press] = new Share();
            }
        }

        void begin(int letterTold, int kindTold) {
            letter = letterTold;
            kind = kindTold;
            presses = 0;
            notes = 0;
        }

        void addShare(int places, int sheets) {
            if (presses >= MOST_PRESSES) {
                return;
            }
            shares[presses].begin(places, sheets, notes);
            notes += places * sheets;
            presses++;
        }

        Share shareAt(int press) {
            return isFromTo(press, 0, presses - 1) ? shares[press] : null;
        }

        boolean hasNumber(int number) {
            return isFromTo(number, 0, notes - 1);
        }

        int pressOf(int number) {
            for (int press = 0; press < presses; press++) {
                if (shares[press].hasNumber(number)) {
                    return press;
                }
            }
            return NONE;
        }

        boolean isPrinted(int number) {
            Share share = shareAt(pressOf(number));
            return share != null && share.sheetOf(number) < share.sheetsRun;
        }

        int notesPrinted() {
            int printed = 0;
            for (int press = 0; press < presses; press++) {
                printed += shares[press].sheetsRun * shares[press].places;
            }
            return printed;
        }

        int sheetsRun() {
            int sheets = 0;
            for (int press = 0; press < presses; press++) {
                sheets += shares[press].sheetsRun;
            }
            return sheets;
        }

        int sheetsLeft() {
            int sheets = 0;
            for (int press = 0; press < presses; press++) {
                sheets += shares[press].sheetsLeft();
            }
            return sheets;
        }

        int packs() {
            return (notes + PACK_SIZE - 1) / PACK_SIZE;
        }

        boolean isWhole(int k) {
            int end = Math.min(PACK_SIZE * k + PACK_SIZE, notes);
            for (int number = PACK_SIZE * k; number < end; number++) {
                if (!isPrinted(number)) {
                    return false;
                }
            }
            return true;
        }

        int wholePacks() {
            int whole = 0;
            for (int k = 0; k < packs(); k++) {
                if (isWhole(k)) {
                    whole++;
                }
            }
            return whole;
        }
    }

    /** What a text tells: presses, series, how many stars. */
    private static final class Plan {
        private final int[] places = new int[MOST_PRESSES];
        private final Series[] rows = new Series[MOST_SERIES];
        private int pressesTold;
        private int seriesTold;
        private int starsTold;

        Plan() {
            for (int s = 0; s < MOST_SERIES; s++) {
                rows[s] = new Series();
            }
        }

        void clear() {
            pressesTold = 0;
            seriesTold = 0;
            starsTold = STARS_UNLESS_TOLD;
        }

        boolean addPress(int placesTold) {
            if (pressesTold >= MOST_PRESSES || seriesTold > 0) {
                return false;
            }
            places[pressesTold] = placesTold;
            pressesTold++;
            return true;
        }

        /** The row of the next series, which does not count before keepNextSeries. */
        Series nextSeries() {
            return seriesTold < MOST_SERIES ? rows[seriesTold] : null;
        }

        void keepNextSeries() {
            if (seriesTold < MOST_SERIES) {
                seriesTold++;
            }
        }

        Series seriesAt(int s) {
            return isFromTo(s, 0, seriesTold - 1) ? rows[s] : null;
        }

        Share shareAt(int s, int press) {
            Series series = seriesAt(s);
            return series == null ? null : series.shareAt(press);
        }

        int seriesOfLetter(int letter) {
            for (int s = 0; s < seriesTold; s++) {
                if (rows[s].letter == letter) {
                    return s;
                }
            }
            return NONE;
        }

        int notesPrinted() {
            int printed = 0;
            for (int s = 0; s < seriesTold; s++) {
                printed += rows[s].notesPrinted();
            }
            return printed;
        }

        int sheetsRun() {
            int sheets = 0;
            for (int s = 0; s < seriesTold; s++) {
                sheets += rows[s].sheetsRun();
            }
            return sheets;
        }

        int wholePacks() {
            int whole = 0;
            for (int s = 0; s < seriesTold; s++) {
                whole += rows[s].wholePacks();
            }
            return whole;
        }
    }

    /** The text's letters, and how they are read. */
    private static final class Text {
        private final int[] letters = new int[LONGEST_TEXT];
        private int length;
        private int at;

        boolean append(int letter) {
            if (length >= LONGEST_TEXT) {
                return false;
            }
            letters[length] = letter;
            length++;
            return true;
        }

        void clear() {
            length = 0;
        }

        /** Fills the plan from the items ahead of the first fault; answers that fault's place, or NONE. */
        int readInto(Plan plan) {
            plan.clear();
            at = 0;
            for (int items = 0; items < LONGEST_TEXT && at < length; items++) {
                int start = at;
                if (!readItem(plan)) {
                    return start;
                }
            }
            return NONE;
        }

        private boolean readItem(Plan plan) {
            if (skip('p')) {
                return readPress(plan);
            }
            if (skip('s')) {
                return readSeries(plan);
            }
            return skip('z') && readStars(plan);
        }

        private boolean readPress(Plan plan) {
            int places = readNumber();
            return isFromTo(places, 1, MOST_PLACES) && skip(';') && plan.addPress(places);
        }

        private boolean readStars(Plan plan) {
            int told = readNumber();
            if (!isFromTo(told, 0, MOST_STARS) || !skip(';')) {
                return false;
            }
            plan.starsTold = told;
            return true;
        }

        private boolean readSeries(Plan plan) {
            Series series = plan.nextSeries();
            int letter = readLetter();
            if (series == null || letter == NONE || plan.seriesOfLetter(letter) != NONE || !skip(',')) {
                return false;
            }
            int kind = readNumber();
            if (!isFromTo(kind, 0, HIGHEST_KIND)) {
                return false;
            }
            series.begin(letter, kind);
            for (int press = 0; press < plan.pressesTold; press++) {
                int sheets = skip(',') ? readNumber() : NONE;
                if (!isFromTo(sheets, 0, MOST_SHEETS)) {
                    return false;
                }
                series.addShare(plan.places[press], sheets);
            }
            if (!skip(';') || !isFromTo(series.notes, 1, MOST_NOTES)) {
                return false;
            }
            plan.keepNextSeries();
            return true;
        }

        private boolean skip(int letter) {
            if (at >= length || letters[at] != letter) {
                return false;
            }
            at++;
            return true;
        }

        /** A letter a to z as 1 to 26, or NONE. */
        private int readLetter() {
            if (at >= length || letters[at] < 'a' || letters[at] > 'z') {
                return NONE;
            }
            at++;
            return letters[at - 1] - 'a' + 1;
        }

        /** A number of one or two figures, or NONE. */
        private int readNumber() {
            int first = readFigure();
            if (first == NONE) {
                return NONE;
            }
            int second = readFigure();
            return second == NONE ? first : 10 * first + second;
        }

        private int readFigure() {
            if (at >= length || letters[at] < '0' || letters[at] > '9') {
                return NONE;
            }
            at++;
            return letters[at - 1] - '0';
        }
    }

    /**
     * Which star stands for which note. Stars are given lowest first and only the latest are taken back
     * (changes are undone latest first), so those that stand for one are always 0 to standing - 1.
     */
    private static final class Stars {
        private final int[] series = new int[MOST_STARS];
        private final int[] numbers = new int[MOST_STARS];
        private int told;
        private int standing;

        void begin(int starsTold) {
            told = Math.min(starsTold, MOST_STARS);
            standing = 0;
        }

        int left() {
            return told - standing;
        }

        void standFor(int s, int number) {
            if (standing >= told) {
                return;
            }
            series[standing] = s;
            numbers[standing] = number;
            standing++;
        }

        void takeBack(int amount) {
            standing = Math.max(standing - amount, 0);
        }

        int seriesOf(int k) {
            return isFromTo(k, 0, standing - 1) ? series[k] : NONE;
        }

        int numberOf(int k) {
            return isFromTo(k, 0, standing - 1) ? numbers[k] : NONE;
        }

        int standingFor(int s, int number) {
            for (int k = 0; k < standing; k++) {
                if (series[k] == s && numbers[k] == number) {
                    return k;
                }
            }
            return NONE;
        }

        boolean standsFor(int s, int number) {
            return standingFor(s, number) != NONE;
        }

        int standingForSeries(int s) {
            int stand = 0;
            for (int k = 0; k < standing; k++) {
                if (series[k] == s) {
                    stand++;
                }
            }
            return stand;
        }
    }

    /** The latest changes, oldest first: sheets run (with their share) or notes spoiled (without one). */
    private static final class Changes {
        private final Share[] shares = new Share[MOST_UNDONE];
        private final int[] amounts = new int[MOST_UNDONE];
        private int kept;

        void clear() {
            kept = 0;
        }

        void rememberRun(Share share, int sheets) {
            remember(share, sheets);
        }

        void rememberSpoiled(int notes) {
            remember(null, notes);
        }

        private void remember(Share share, int amount) {
            if (kept >= MOST_UNDONE) {
                forgetOldest();
            }
            shares[kept] = share;
            amounts[kept] = amount;
            kept++;
        }

        private void forgetOldest() {
            for (int i = 1; i < MOST_UNDONE; i++) {
                shares[i - 1] = shares[i];
                amounts[i - 1] = amounts[i];
            }
            kept = MOST_UNDONE - 1;
        }

        Share latestShare() {
            return kept < 1 ? null : shares[kept - 1];
        }

        int latestAmount() {
            return kept < 1 ? 0 : amounts[kept - 1];
        }

        void forgetLatest() {
            kept = Math.max(kept - 1, 0);
        }
    }

    /** The three kinds of check; x, y, z are a number's figures, hundreds first. */
    private static final class Checks {
        private static final int NINES = 0;
        private static final int ELEVEN = 1;
        private static final int[] TURNED = {1, 5, 7, 6, 2, 8, 3, 0, 9, 4};

        static int ofNumber(int kind, int letter, int number) {
            return ofFigures(kind, letter, number / 100, number / 10 % 10, number % 10);
        }

        static int ofStar(int k) {
            return ofNumber(ELEVEN, 0, k);
        }

        static int missedFigures(int kind, int letter, int number) {
            int x = number / 100;
            int y = number / 10 % 10;
            int z = number % 10;
            int right = ofFigures(kind, letter, x, y, z);
            int missed = 0;
            for (int figure = 0; figure <= 9; figure++) {
                if (figure != x && ofFigures(kind, letter, figure, y, z) == right) {
                    missed++;
                }
                if (figure != y && ofFigures(kind, letter, x, figure, z) == right) {
                    missed++;
                }
                if (figure != z && ofFigures(kind, letter, x, y, figure) == right) {
                    missed++;
                }
            }
            return missed;
        }

        static int missedSwaps(int kind, int letter, int number) {
            int x = number / 100;
            int y = number / 10 % 10;
            int z = number % 10;
            int right = ofFigures(kind, letter, x, y, z);
            int missed = 0;
            if (x != y && ofFigures(kind, letter, y, x, z) == right) {
                missed++;
            }
            if (y != z && ofFigures(kind, letter, x, z, y) == right) {
                missed++;
            }
            return missed;
        }

        private static int ofFigures(int kind, int letter, int x, int y, int z) {
            if (kind == NINES) {
                return Math.floorMod(-(letter + x + y + z), 9);
            }
            if (kind == ELEVEN) {
                return Math.floorMod(-(5 * letter + 4 * x + 3 * y + 2 * z), 11);
            }
            return byTurns(letter, x, y, z);
        }

        private static int byTurns(int letter, int x, int y, int z) {
            int r = letter % 10;
            r = make(r, turned(x, 1));
            r = make(r, turned(y, 2));
            r = make(r, turned(z, 3));
            // From 5 on each makes 0 with itself.
            return r < 5 ? (5 - r) % 5 : r;
        }

        private static int make(int a, int b) {
            int turn = a < 5 ? (a + b) % 5 : (a - b + 5) % 5;
            return (a < 5) == (b < 5) ? turn : 5 + turn;
        }

        private static int turned(int figure, int times) {
            int now = figure;
            for (int i = 0; i < times; i++) {
                now = isFromTo(now, 0, 9) ? TURNED[now] : 0;
            }
            return now;
        }
    }
}
