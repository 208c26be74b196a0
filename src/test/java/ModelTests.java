import java.util.Random;

/** Runs of 512 calls, the same in every run of the test, each answer compared with the model's. */
public final class ModelTests {
    private static final int RUNS = 300;
    private static final int CALLS = 512;
    private static final Due due = new Due();

    private final Random random;
    private final NotePress x = new NotePress();
    private final Model model = new Model();
    private int calls;

    private ModelTests(long seed) {
        random = new Random(seed);
    }

    public static void main(String[] args) {
        for (int seed = 1; seed <= RUNS && due.wrong() < 20; seed++) {
            due.part("run " + seed);
            new ModelTests(seed).go();
        }
        due.end();
    }

    private void go() {
        if (random.nextInt(4) > 0) {
            tell();
            same("lay", x.lay(), model.lay());
        }
        while (calls < CALLS && due.wrong() < 20) {
            step();
        }
    }

    private void same(String call, int got, int want) {
        calls++;
        due.is(call + " as call " + calls, got, want);
    }

    private void step() {
        int chance = random.nextInt(100);
        if (chance < 1) {
            tell();
            same("lay", x.lay(), model.lay());
        } else if (chance < 45) {
            change();
        } else {
            ask();
        }
    }

    private int below(int n) {
        return random.nextInt(n);
    }

    /** A number from 0 to most, seldom one outside. */
    private int around(int most) {
        int chance = below(40);
        if (chance == 0) {
            return -1 - below(3);
        }
        if (chance == 1) {
            return most + 1 + below(3);
        }
        if (chance == 2) {
            return random.nextInt();
        }
        return below(Math.max(most, 0) + 1);
    }

    private void tell() {
        same("wipe", x.wipe(), model.wipe());
        StringBuilder text = new StringBuilder();
        int presses = 1 + below(4);
        for (int i = 0; i < presses; i++) {
            text.append('p').append(1 + below(8)).append(';');
        }
        int series = 1 + below(3);
        for (int s = 0; s < series; s++) {
            text.append('s').append((char) ('a' + below(26))).append(',').append(below(3));
            for (int i = 0; i < presses; i++) {
                text.append(',').append(below(4) == 0 ? 0 : below(presses > 2 ? 33 : 41));
            }
            text.append(';');
        }
        if (below(4) > 0) {
            text.append('z').append(below(3) == 0 ? below(100) : below(20)).append(';');
        }
        spoilText(text);
        for (int i = 0; i < text.length(); i++) {
            same("write", x.write(text.charAt(i)), model.write(text.charAt(i)));
        }
        same("fault of " + text, x.fault(), model.fault());
    }

    private void spoilText(StringBuilder text) {
        if (below(3) > 0) {
            return;
        }
        String signs = "psz,;0123456789ab xA`{/:";
        int at = below(text.length());
        int way = below(3);
        if (way == 0) {
            text.setCharAt(at, signs.charAt(below(signs.length())));
        } else if (way == 1) {
            text.deleteCharAt(at);
        } else {
            text.insert(at, signs.charAt(below(signs.length())));
        }
    }

    private void change() {
        int s = around(model.count(1) - 1);
        int press = around(model.count(0) - 1);
        int sheets = model.share(s, press, 0);
        int m = model.series(s, 2);
        int way = below(12);
        if (way < 4) {
            int n = below(3) == 0 ? around(40) : 1 + below(Math.max(sheets, 1));
            same("run " + s + " " + press + " " + n, x.run(s, press, n), model.run(s, press, n));
        } else if (way < 8) {
            int number = around(m - 1);
            same("spoil " + s + " " + number, x.spoil(s, number), model.spoil(s, number));
        } else if (way < 10) {
            int sheet = around(sheets - 1);
            same("spoilSheet " + s + " " + press + " " + sheet, x.spoilSheet(s, press, sheet),
                model.spoilSheet(s, press, sheet));
        } else {
            same("undo", x.undo(), model.undo());
        }
    }

    private void ask() {
        int s = around(model.count(1) - 1);
        int press = around(model.count(0) - 1);
        int number = around(model.series(s, 2) - 1);
        if (below(2) == 0) {
            askNumbers(s, press, number);
        } else {
            askStars(s, number);
        }
    }

    private void askNumbers(int s, int press, int number) {
        int any = around(999);
        int what = around(7);
        same("series", x.series(s, what), model.series(s, what));
        what = around(3);
        same("share", x.share(s, press, what), model.share(s, press, what));
        what = around(2);
        same("where", x.where(s, number, what), model.where(s, number, what));
        int sheet = around(model.share(s, press, 0) - 1);
        int place = around(model.share(s, press, 3) - 1);
        same("number", x.number(s, press, sheet, place), model.number(s, press, sheet, place));
        same("check", x.check(s, any), model.check(s, any));
        what = around(1);
        same("missed", x.missed(s, any, what), model.missed(s, any, what));
        same("note", x.note(s, number), model.note(s, number));
    }

    private void askStars(int s, int number) {
        int k = around(model.count(2) - 1);
        int what = around(2);
        same("star", x.star(k, what), model.star(k, what));
        same("starOf", x.starOf(s, number), model.starOf(s, number));
        int letter = below(3) == 0 ? around(26) : Math.max(model.series(s, 0), 0);
        int told = letter == 0 ? k : number;
        int right = letter == 0 ? model.star(k, 2) : model.check(s, number);
        int check = below(4) == 0 ? around(99) : right;
        same("judge", x.judge(letter, told, check), model.judge(letter, told, check));
        int pack = around(model.series(s, 6) - 1);
        int i = around(9);
        same("pack", x.pack(s, pack, i), model.pack(s, pack, i));
        what = around(9);
        same("count", x.count(what), model.count(what));
    }
}
