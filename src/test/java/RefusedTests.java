/**
 * Every call that the document refuses (BAD, NO, NONE, FULL), and calls that only ask: they are answered as is due and
 * nothing changes, which is asked by later calls.
 */
public final class RefusedTests {
    private static final int BAD = NotePress.BAD, NO = NotePress.NO, FULL = NotePress.FULL, NONE = NotePress.NONE;
    private static final int LOWEST = Integer.MIN_VALUE, HIGHEST = Integer.MAX_VALUE;
    private static final String PLAN = "p2;p3;sa,0,3,2;sb,1,0,4;sz,2,6,0;z6;";
    private static final Due due = new Due();

    public static void main(String[] args) {
        due.part("refused");
        Twins.Story[] stories = {x -> { }, RefusedTests::busy, RefusedTests::fullText, RefusedTests::textAtFault,
            RefusedTests::noStars, RefusedTests::undoneToTheEnd};
        String[] names = {"a new object", "busy", "full text", "text at fault", "no stars", "undone"};
        for (int i = 0; i < stories.length; i++) {
            Twins twins = new Twins(due, names[i], stories[i]);
            told(twins);
            changes(twins);
            numbers(twins);
            stars(twins);
        }
        tellingRefused();
        changesRefused();
        packsRefused();
        askingChangesNothing();
        due.end();
    }

    // ---- where the calls are made

    /** Eight changes; of a SHEETS 0 and 1 of PRESS 0 are RUN, of b and z all; five STARS of six stand for one. */
    private static void busy(NotePress x) {
        Due.rewrite(x, PLAN);
        x.lay();
        x.run(0, 0, 1);
        x.run(0, 0, 1);
        x.run(1, 1, 4);
        x.run(2, 0, 5);
        x.spoil(0, 3);
        x.spoilSheet(1, 1, 2);
        x.spoil(2, 0);
        x.run(2, 0, 1);
    }

    private static void fullText(NotePress x) {
        x.run(0, 0, 3);
        x.spoil(0, 0);
        Due.rewrite(x, "z10;".repeat(50));
    }

    private static void textAtFault(NotePress x) {
        Due.rewrite(x, "p8;sc,0,40;z9;");
        x.lay();
        x.run(0, 0, 9);
        x.spoilSheet(0, 0, 8);
        Due.rewrite(x, "p1;p2;sa,2,1,1;sb,0,3,3;z77;sb");
    }

    private static void noStars(NotePress x) {
        Due.rewrite(x, "p1;sa,0,1;z0;");
        x.lay();
        x.run(0, 0, 1);
    }

    private static void undoneToTheEnd(NotePress x) {
        busy(x);
        for (int i = 0; i < 6; i++) {
            x.undo();
        }
    }

    // ---- refused wherever they are made: a number is none that is told

    private static void told(Twins twins) {
        for (int letter : new int[] {LOWEST, -1, 0, 31, 127, 128, 256 + 'p', HIGHEST}) {
            twins.unchanged("write(" + letter + ")", BAD, x -> x.write(letter));
        }
    }

    private static void changes(Twins twins) {
        for (int wrong : new int[] {LOWEST, -1, 4, 999, HIGHEST}) {
            twins.unchanged("run, SERIES " + wrong, BAD, x -> x.run(wrong, 0, 1));
            twins.unchanged("run, PRESS " + wrong, BAD, x -> x.run(0, wrong, 1));
            twins.unchanged("spoil, SERIES " + wrong, BAD, x -> x.spoil(wrong, 0));
            twins.unchanged("spoilSheet, SERIES " + wrong, BAD, x -> x.spoilSheet(wrong, 0, 0));
            twins.unchanged("spoilSheet, PRESS " + wrong, BAD, x -> x.spoilSheet(0, wrong, 0));
        }
        for (int wrong : new int[] {LOWEST, -1, 0, 41, HIGHEST}) {
            twins.unchanged("run, n " + wrong, BAD, x -> x.run(0, 0, wrong));
        }
        for (int wrong : new int[] {LOWEST, -1, HIGHEST}) {
            twins.unchanged("spoil, NUMBER " + wrong, BAD, x -> x.spoil(0, wrong));
            twins.unchanged("spoilSheet, SHEET " + wrong, BAD, x -> x.spoilSheet(0, 0, wrong));
        }
        twins.unchanged("one SERIES too many", BAD, x -> x.run(x.count(1), 0, 1));
        twins.unchanged("one PRESS too many", BAD, x -> x.run(0, x.count(0), 1));
        twins.unchanged("one NUMBER too many", BAD, x -> x.spoil(0, x.series(0, 2)));
        twins.unchanged("one SHEET too many", BAD, x -> x.spoilSheet(0, 0, x.share(0, 0, 0)));
    }

    private static void numbers(Twins twins) {
        for (int wrong : new int[] {LOWEST, -1, 8, 1000, HIGHEST}) {
            twins.unchanged("series, what " + wrong, BAD, x -> x.series(0, wrong));
            twins.unchanged("series, SERIES " + wrong, BAD, x -> x.series(wrong, 0));
            twins.unchanged("share, what " + wrong, BAD, x -> x.share(0, 0, wrong));
            twins.unchanged("share, SERIES " + wrong, BAD, x -> x.share(wrong, 0, 0));
            twins.unchanged("share, PRESS " + wrong, BAD, x -> x.share(0, wrong, 0));
            twins.unchanged("where, what " + wrong, BAD, x -> x.where(0, 0, wrong));
            twins.unchanged("where, SERIES " + wrong, BAD, x -> x.where(wrong, 0, 0));
            twins.unchanged("number, SERIES " + wrong, BAD, x -> x.number(wrong, 0, 0, 0));
            twins.unchanged("number, PRESS " + wrong, BAD, x -> x.number(0, wrong, 0, 0));
            twins.unchanged("number, PLACE " + wrong, BAD, x -> x.number(0, 0, 0, wrong));
            twins.unchanged("check, SERIES " + wrong, BAD, x -> x.check(wrong, 0));
            twins.unchanged("missed, SERIES " + wrong, BAD, x -> x.missed(wrong, 0, 0));
            twins.unchanged("missed, what " + wrong, BAD, x -> x.missed(0, 0, wrong));
            twins.unchanged("note, SERIES " + wrong, BAD, x -> x.note(wrong, 0));
        }
        for (int wrong : new int[] {LOWEST, -1, 1000, HIGHEST}) {
            twins.unchanged("where, NUMBER " + wrong, BAD, x -> x.where(0, wrong, 0));
            twins.unchanged("number, SHEET " + wrong, BAD, x -> x.number(0, 0, wrong, 0));
            twins.unchanged("check, number " + wrong, BAD, x -> x.check(0, wrong));
            twins.unchanged("missed, number " + wrong, BAD, x -> x.missed(0, wrong, 0));
            twins.unchanged("note, NUMBER " + wrong, BAD, x -> x.note(0, wrong));
        }
        firstWhatTooMany(twins);
    }

    private static void firstWhatTooMany(Twins twins) {
        twins.unchanged("share, what 4", BAD, x -> x.share(0, 0, 4));
        twins.unchanged("where, what 3", BAD, x -> x.where(0, 0, 3));
        twins.unchanged("missed, what 2", BAD, x -> x.missed(0, 0, 2));
        twins.unchanged("star, what 3", BAD, x -> x.star(0, 3));
        twins.unchanged("count, what 10", BAD, x -> x.count(10));
        twins.unchanged("where, one NUMBER too many", BAD, x -> x.where(0, x.series(0, 2), 0));
        twins.unchanged("note, one NUMBER too many", BAD, x -> x.note(0, x.series(0, 2)));
        twins.unchanged("starOf, one NUMBER too many", BAD, x -> x.starOf(0, x.series(0, 2)));
        twins.unchanged("number, one SHEET too many", BAD, x -> x.number(0, 0, x.share(0, 0, 0), 0));
        twins.unchanged("number, one PLACE too many", BAD, x -> x.number(0, 0, 0, x.share(0, 0, 3)));
        twins.unchanged("star, one STAR too many", BAD, x -> x.star(x.count(2), 2));
        twins.unchanged("pack, one PACK too many", BAD, x -> x.pack(0, x.series(0, 6), 0));
    }

    private static void stars(Twins twins) {
        for (int wrong : new int[] {LOWEST, -1, 99, 100, 1000, HIGHEST}) {
            twins.unchanged("star, STAR " + wrong, BAD, x -> x.star(wrong, 0));
            twins.unchanged("star, what " + wrong, BAD, x -> x.star(0, wrong));
            twins.unchanged("starOf, SERIES " + wrong, BAD, x -> x.starOf(wrong, 0));
            twins.unchanged("judge, LETTER " + wrong, BAD, x -> x.judge(wrong, 0, 0));
            twins.unchanged("pack, SERIES " + wrong, BAD, x -> x.pack(wrong, 0, 0));
            twins.unchanged("pack, PACK " + wrong, BAD, x -> x.pack(0, wrong, 0));
            twins.unchanged("pack, place " + wrong, BAD, x -> x.pack(0, 0, wrong));
            twins.unchanged("count, what " + wrong, BAD, x -> x.count(wrong));
        }
        for (int wrong : new int[] {LOWEST, -1, 1000, HIGHEST}) {
            twins.unchanged("starOf, NUMBER " + wrong, BAD, x -> x.starOf(0, wrong));
            twins.unchanged("judge, NUMBER " + wrong, BAD, x -> x.judge(0, wrong, 0));
            twins.unchanged("judge, NUMBER of a NOTE " + wrong, BAD, x -> x.judge(1, wrong, 0));
            twins.unchanged("judge, CHECK " + wrong, BAD, x -> x.judge(0, 0, wrong));
        }
        twins.unchanged("judge, LETTER 27", BAD, x -> x.judge(27, 0, 0));
        twins.unchanged("judge, CHECK 100", BAD, x -> x.judge(0, 0, 100));
        twins.unchanged("pack, place 10", BAD, x -> x.pack(0, 0, 10));
    }

    // ---- refused as things stand

    private static void tellingRefused() {
        Twins full = new Twins(due, "full text", RefusedTests::fullText);
        for (int letter = 32; letter <= 126; letter += 47) {
            int sign = letter;
            full.unchanged("write(" + sign + ")", FULL, x -> x.write(sign));
        }
        full.unchanged("lay without a SERIES", NO, NotePress::lay);
        full.unchanged("fault without one", NONE, NotePress::fault);
        Twins wrong = new Twins(due, "text at fault", RefusedTests::textAtFault);
        wrong.unchanged("lay of a FAULT", NO, NotePress::lay);
        wrong.unchanged("fault", 28, NotePress::fault);
        Twins first = new Twins(due, "a new object", x -> { });
        first.unchanged("lay of an empty text", NO, NotePress::lay);
        first.unchanged("wipe of an empty text", 0, NotePress::wipe);
        first.unchanged("undo of nothing", NO, NotePress::undo);
        new Twins(due, "undone", RefusedTests::undoneToTheEnd).unchanged("undo of more than six", NO, NotePress::undo);
    }

    private static void changesRefused() {
        Twins busy = new Twins(due, "busy", RefusedTests::busy);
        busy.unchanged("run, one more than are left", NO, x -> x.run(0, 0, 2));
        busy.unchanged("run, 40", NO, x -> x.run(0, 0, 40));
        busy.unchanged("run, none is left", NO, x -> x.run(1, 1, 1));
        busy.unchanged("run, no SHEETS of it", NO, x -> x.run(1, 0, 1));
        busy.unchanged("spoil, it is not PRINTED", NO, x -> x.spoil(0, 2));
        busy.unchanged("spoil, of a PRESS without a RUN", NO, x -> x.spoil(0, 6));
        busy.unchanged("spoil, it is SPOILED", NO, x -> x.spoil(0, 3));
        busy.unchanged("spoil, its SHEET is", NO, x -> x.spoil(1, 10));
        busy.unchanged("spoilSheet, it is not PRINTED", NO, x -> x.spoilSheet(0, 0, 2));
        busy.unchanged("spoilSheet, of a PRESS without a RUN", NO, x -> x.spoilSheet(0, 1, 0));
        busy.unchanged("spoilSheet, all of it are SPOILED", NO, x -> x.spoilSheet(1, 1, 2));
        busy.unchanged("spoilSheet, one STAR for two", FULL, x -> x.spoilSheet(2, 0, 3));
        busy.unchanged("spoilSheet, one STAR for three", FULL, x -> x.spoilSheet(1, 1, 0));
        busy.unchanged("spoilSheet, no SHEETS of it", BAD, x -> x.spoilSheet(1, 0, 0));
        Twins none = new Twins(due, "no stars", RefusedTests::noStars);
        none.unchanged("spoil, no STARS", FULL, x -> x.spoil(0, 0));
        none.unchanged("spoilSheet, no STARS", FULL, x -> x.spoilSheet(0, 0, 0));
        none.unchanged("star, no STARS", BAD, x -> x.star(0, 0));
        Twins used = new Twins(due, "all stars in use", x -> {
            busy(x);
            x.spoil(1, 0);
        });
        used.unchanged("spoil, no STAR is left", FULL, x -> x.spoil(0, 0));
        used.unchanged("spoilSheet, no STAR is left", FULL, x -> x.spoilSheet(0, 0, 1));
    }

    private static void packsRefused() {
        Twins busy = new Twins(due, "busy", RefusedTests::busy);
        busy.unchanged("pack, it is not WHOLE", NO, x -> x.pack(0, 0, 0));
        busy.unchanged("pack, it is not WHOLE, it has fewer", NO, x -> x.pack(0, 1, 2));
        busy.unchanged("pack, it has fewer", NONE, x -> x.pack(2, 1, 2));
        busy.unchanged("starOf, it is not SPOILED", NONE, x -> x.starOf(0, 0));
        busy.unchanged("starOf, it is not PRINTED", NONE, x -> x.starOf(0, 2));
        busy.unchanged("star, its SERIES", NONE, x -> x.star(5, 0));
        busy.unchanged("star, its NUMBER", NONE, x -> x.star(5, 1));
    }

    // ---- calls that only ask

    private static void askingChangesNothing() {
        Twins busy = new Twins(due, "busy", RefusedTests::busy);
        busy.unchanged("fault", NONE, NotePress::fault);
        busy.unchanged("series, SHEETS left", 3, x -> x.series(0, 5));
        busy.unchanged("series, PACKS that are WHOLE", 2, x -> x.series(2, 7));
        busy.unchanged("share", 6, x -> x.share(0, 1, 2));
        busy.unchanged("where", 1, x -> x.where(0, 7, 1));
        busy.unchanged("number", 7, x -> x.number(0, 1, 1, 0));
        busy.unchanged("check", 8, x -> x.check(0, 999));
        busy.unchanged("missed", 3, x -> x.missed(0, 999, 0));
        busy.unchanged("note", 2, x -> x.note(0, 3));
        busy.unchanged("star", 3, x -> x.star(0, 1));
        busy.unchanged("starOf", 0, x -> x.starOf(0, 3));
        busy.unchanged("judge", 5, x -> x.judge(1, 3, 5));
        busy.unchanged("pack", NotePress.STAR + 4, x -> x.pack(2, 0, 0));
        busy.unchanged("count", 6, x -> x.count(8));
    }
}
