import java.util.ArrayDeque;
import java.util.ArrayList;
import java.util.Arrays;
import java.util.Deque;
import java.util.List;
import java.util.regex.Pattern;

/**
 * The document once more, written another way than the class: every note is a cell of its own, the text is read by
 * patterns, and undoing brings back a whole copy. It is slow and makes many objects; tests compare with it.
 */
final class Model {
    private static final String[] TURN_TABLE = {"0123456789", "1234067895", "2340178956", "3401289567", "4012395678",
        "5987604321", "6598710432", "7659821043", "8765932104", "9876543210"};
    private static final String TURNED = "1576283094";
    private static final Pattern PRESS = Pattern.compile("p[0-9]{1,2}");
    private static final Pattern STARS = Pattern.compile("z[0-9]{1,2}");
    private static final Pattern SERIES = Pattern.compile("s[a-z](,[0-9]{1,2})+");
    private static final int BAD = -1, NO = -2, FULL = -3, NONE = -4;

    /** A note: where it is printed, and what became of it. */
    private static final class Cell {
        int press, sheet, place, state, star = NONE;
    }

    private static final class Told {
        final List<Integer> places = new ArrayList<>();
        final List<int[]> series = new ArrayList<>();
        int z = 20;
        int fault = NONE;
    }

    private String text = "";
    private Told told;
    private Cell[][] notes;
    private final Deque<Cell[][]> before = new ArrayDeque<>();

    Model() {
        text = "p4;p2;sa,0,10,5;sc,1,3,9;se,2,6,0;z12;";
        lay();
        text = "";
    }

    static int check(int kind, int letter, int number) {
        int x = number / 100, y = number / 10 % 10, z = number % 10;
        for (int c = 0; c < 11; c++) {
            if (kind == 0 && (letter + x + y + z + c) % 9 == 0) {
                return c;
            }
            if (kind == 1 && (5 * letter + 4 * x + 3 * y + 2 * z + c) % 11 == 0) {
                return c;
            }
            if (kind == 2 && makes(makes(makes(makes(letter % 10, turn(x)), turn(turn(y))), turn(turn(turn(z)))), c) == 0) {
                return c;
            }
        }
        throw new IllegalStateException();
    }

    private static int makes(int a, int b) {
        return TURN_TABLE[a].charAt(b) - '0';
    }

    private static int turn(int figure) {
        return TURNED.charAt(figure) - '0';
    }

    static int missedChanges(int kind, int letter, int number) {
        int missed = 0;
        for (int other = 0; other < 1000; other++) {
            int unlike = (other / 100 == number / 100 ? 0 : 1) + (other / 10 % 10 == number / 10 % 10 ? 0 : 1)
                + (other % 10 == number % 10 ? 0 : 1);
            if (unlike == 1 && check(kind, letter, other) == check(kind, letter, number)) {
                missed++;
            }
        }
        return missed;
    }

    static int missedSwaps(int kind, int letter, int number) {
        String f = String.format("%03d", number);
        String[] swapped = {"" + f.charAt(1) + f.charAt(0) + f.charAt(2), "" + f.charAt(0) + f.charAt(2) + f.charAt(1)};
        int missed = 0;
        for (String other : swapped) {
            if (!other.equals(f) && check(kind, letter, Integer.parseInt(other)) == check(kind, letter, number)) {
                missed++;
            }
        }
        return missed;
    }

    int write(int letter) {
        if (letter < 32 || letter > 126) {
            return BAD;
        }
        if (text.length() == 200) {
            return FULL;
        }
        text += (char) letter;
        return text.length();
    }

    int wipe() {
        int was = text.length();
        text = "";
        return was;
    }

    int fault() {
        return read().fault;
    }

    int lay() {
        Told next = read();
        if (next.fault != NONE || next.series.isEmpty()) {
            return NO;
        }
        told = next;
        notes = new Cell[next.series.size()][];
        for (int s = 0; s < notes.length; s++) {
            notes[s] = cells(s);
        }
        before.clear();
        return notes.length;
    }

    private Told read() {
        Told t = new Told();
        int start = 0;
        while (start < text.length()) {
            int end = text.indexOf(';', start);
            if (end < 0 || !take(t, text.substring(start, end))) {
                t.fault = start;
                return t;
            }
            start = end + 1;
        }
        return t;
    }

    private static boolean take(Told t, String item) {
        if (PRESS.matcher(item).matches()) {
            int n = Integer.parseInt(item.substring(1));
            t.places.add(n);
            return n >= 1 && n <= 8 && t.places.size() <= 4 && t.series.isEmpty();
        }
        if (STARS.matcher(item).matches()) {
            t.z = Integer.parseInt(item.substring(1));
            return true;
        }
        return SERIES.matcher(item).matches() && takeSeries(t, item.split(","));
    }

    private static boolean takeSeries(Told t, String[] parts) {
        int[] row = new int[parts.length];
        row[0] = parts[0].charAt(1) - 'a' + 1;
        int m = 0;
        boolean right = parts.length == 2 + t.places.size() && t.series.size() < 3;
        for (int i = 1; right && i < parts.length; i++) {
            row[i] = Integer.parseInt(parts[i]);
            right = row[i] <= (i == 1 ? 2 : 40);
            m += i == 1 ? 0 : row[i] * t.places.get(i - 2);
        }
        for (int[] other : t.series) {
            right &= other[0] != row[0];
        }
        t.series.add(row);
        return right && m >= 1 && m <= 999;
    }

    private Cell[] cells(int s) {
        List<Cell> cells = new ArrayList<>();
        for (int press = 0; press < told.places.size(); press++) {
            for (int place = 0; place < told.places.get(press); place++) {
                for (int sheet = 0; sheet < told.series.get(s)[2 + press]; sheet++) {
                    Cell cell = new Cell();
                    cell.press = press;
                    cell.sheet = sheet;
                    cell.place = place;
                    cells.add(cell);
                }
            }
        }
        return cells.toArray(new Cell[0]);
    }

    private void remember() {
        Cell[][] copy = new Cell[notes.length][];
        for (int s = 0; s < notes.length; s++) {
            copy[s] = new Cell[notes[s].length];
            for (int number = 0; number < copy[s].length; number++) {
                Cell from = notes[s][number];
                Cell to = new Cell();
                to.press = from.press;
                to.sheet = from.sheet;
                to.place = from.place;
                to.state = from.state;
                to.star = from.star;
                copy[s][number] = to;
            }
        }
        before.addLast(copy);
        if (before.size() > 6) {
            before.removeFirst();
        }
    }

    private boolean noSeries(int s) {
        return s < 0 || s >= notes.length;
    }

    private boolean noShare(int s, int press) {
        return noSeries(s) || press < 0 || press >= told.places.size();
    }

    private boolean noNumber(int s, int number) {
        return noSeries(s) || number < 0 || number >= notes[s].length;
    }

    private boolean noSheet(int s, int press, int sheet) {
        return noShare(s, press) || sheet < 0 || sheet >= told.series.get(s)[2 + press];
    }

    private int sheetsRun(int s, int press) {
        int run = 0;
        for (Cell cell : notes[s]) {
            if (cell.press == press && cell.place == 0 && cell.state > 0) {
                run++;
            }
        }
        return run;
    }

    int run(int s, int press, int n) {
        if (noShare(s, press) || n < 1 || n > 40) {
            return BAD;
        }
        int from = sheetsRun(s, press);
        if (from + n > told.series.get(s)[2 + press]) {
            return NO;
        }
        remember();
        int printed = 0;
        for (Cell cell : notes[s]) {
            if (cell.press == press && cell.sheet >= from && cell.sheet < from + n) {
                cell.state = 1;
                printed++;
            }
        }
        return printed;
    }

    /** The lowest star that stands for none, Z if all do. */
    private int lowestStar() {
        for (int k = 0; k < told.z; k++) {
            if (holder(k) == null) {
                return k;
            }
        }
        return told.z;
    }

    private int[] holder(int k) {
        for (int s = 0; s < notes.length; s++) {
            for (int number = 0; number < notes[s].length; number++) {
                if (notes[s][number].star == k) {
                    return new int[] {s, number};
                }
            }
        }
        return null;
    }

    private void spoilCell(Cell cell) {
        cell.star = lowestStar();
        cell.state = 2;
    }

    int spoil(int s, int number) {
        if (noNumber(s, number)) {
            return BAD;
        }
        if (notes[s][number].state != 1) {
            return NO;
        }
        if (lowestStar() == told.z) {
            return FULL;
        }
        remember();
        spoilCell(notes[s][number]);
        return notes[s][number].star;
    }

    int spoilSheet(int s, int press, int sheet) {
        if (noSheet(s, press, sheet)) {
            return BAD;
        }
        List<Cell> wanted = new ArrayList<>();
        for (Cell cell : notes[s]) {
            if (cell.press == press && cell.sheet == sheet && cell.state == 1) {
                wanted.add(cell);
            }
        }
        if (wanted.isEmpty()) {
            return NO;
        }
        if (count(3) + wanted.size() > told.z) {
            return FULL;
        }
        remember();
        wanted.sort((a, b) -> Integer.compare(a.place, b.place));
        for (Cell cell : wanted) {
            spoilCell(cell);
        }
        return wanted.size();
    }

    int undo() {
        if (before.isEmpty()) {
            return NO;
        }
        notes = before.removeLast();
        return before.size();
    }

    private int withState(int s, int lowest) {
        int n = 0;
        for (Cell cell : notes[s]) {
            n += cell.state >= lowest ? 1 : 0;
        }
        return n;
    }

    private boolean whole(int s, int k) {
        for (Cell cell : Arrays.copyOfRange(notes[s], 10 * k, Math.min(notes[s].length, 10 * k + 10))) {
            if (cell.state == 0) {
                return false;
            }
        }
        return true;
    }

    int series(int s, int what) {
        if (noSeries(s) || what < 0 || what > 7) {
            return BAD;
        }
        int packs = notes[s].length / 10 + (notes[s].length % 10 > 0 ? 1 : 0);
        int left = 0;
        for (int press = 0; press < told.places.size(); press++) {
            left += told.series.get(s)[2 + press] - sheetsRun(s, press);
        }
        int whole = 0;
        for (int k = 0; k < packs; k++) {
            whole += whole(s, k) ? 1 : 0;
        }
        return new int[] {told.series.get(s)[0], told.series.get(s)[1], notes[s].length, withState(s, 1),
            withState(s, 2), left, packs, whole}[what];
    }

    int share(int s, int press, int what) {
        if (noShare(s, press) || what < 0 || what > 3) {
            return BAD;
        }
        int first = 0;
        for (int p = 0; p < press; p++) {
            first += told.series.get(s)[2 + p] * told.places.get(p);
        }
        return new int[] {told.series.get(s)[2 + press], sheetsRun(s, press), first, told.places.get(press)}[what];
    }

    int where(int s, int number, int what) {
        if (noNumber(s, number) || what < 0 || what > 2) {
            return BAD;
        }
        Cell cell = notes[s][number];
        return new int[] {cell.press, cell.sheet, cell.place}[what];
    }

    int number(int s, int press, int sheet, int place) {
        if (noSeries(s)) {
            return BAD;
        }
        for (int number = 0; number < notes[s].length; number++) {
            Cell cell = notes[s][number];
            if (cell.press == press && cell.sheet == sheet && cell.place == place) {
                return number;
            }
        }
        return BAD;
    }

    int check(int s, int number) {
        if (noSeries(s) || number < 0 || number > 999) {
            return BAD;
        }
        return check(told.series.get(s)[1], told.series.get(s)[0], number);
    }

    int missed(int s, int number, int what) {
        if (noSeries(s) || number < 0 || number > 999 || what < 0 || what > 1) {
            return BAD;
        }
        int letter = told.series.get(s)[0];
        int kind = told.series.get(s)[1];
        return what == 0 ? missedChanges(kind, letter, number) : missedSwaps(kind, letter, number);
    }

    int note(int s, int number) {
        return noNumber(s, number) ? BAD : notes[s][number].state;
    }

    int star(int k, int what) {
        if (k < 0 || k >= told.z || what < 0 || what > 2) {
            return BAD;
        }
        int[] holder = holder(k);
        return what == 2 ? check(1, 0, k) : holder == null ? NONE : holder[what];
    }

    int starOf(int s, int number) {
        return noNumber(s, number) ? BAD : notes[s][number].star;
    }

    int judge(int letter, int number, int check) {
        if (letter < 0 || letter > 26 || number < 0 || number > 999 || check < 0 || check > 99) {
            return BAD;
        }
        if (letter == 0) {
            return number >= told.z ? 2 : check != check(1, 0, number) ? 3 : holder(number) == null ? 4 : 0;
        }
        for (int s = 0; s < notes.length; s++) {
            if (told.series.get(s)[0] == letter) {
                return number >= notes[s].length ? 2 : check != check(s, number) ? 3
                    : new int[] {4, 0, 5}[notes[s][number].state];
            }
        }
        return 1;
    }

    int pack(int s, int k, int i) {
        if (noSeries(s) || k < 0 || k >= series(s, 6) || i < 0 || i > 9) {
            return BAD;
        }
        if (!whole(s, k)) {
            return NO;
        }
        if (10 * k + i >= notes[s].length) {
            return NONE;
        }
        Cell cell = notes[s][10 * k + i];
        return cell.state == 2 ? 1000 + cell.star : 10 * k + i;
    }

    int count(int what) {
        if (what < 0 || what > 9) {
            return BAD;
        }
        int standing = 0, printed = 0, run = 0, whole = 0;
        for (int s = 0; s < notes.length; s++) {
            standing += withState(s, 2);
            printed += withState(s, 1);
            whole += series(s, 7);
            for (int press = 0; press < told.places.size(); press++) {
                run += sheetsRun(s, press);
            }
        }
        return new int[] {told.places.size(), notes.length, told.z, standing, printed, standing, run, whole,
            before.size(), text.length()}[what];
    }
}
