/** The document's promises one by one: ordinary inputs, the edges that it names, and wrong inputs. */
public final class PromiseTests {
    private static final int BAD = NotePress.BAD, NO = NotePress.NO, FULL = NotePress.FULL, NONE = NotePress.NONE;
    private static final int STAR = NotePress.STAR;
    private static final int[] WILD = {Integer.MIN_VALUE, -1000, -5, -1, 1000, 100000, Integer.MAX_VALUE};
    private static final String FIRST = "p4;p2;sa,0,10,5;sc,1,3,9;se,2,6,0;z12;";
    private static final Due due = new Due();

    public static void main(String[] args) {
        newObject();
        write();
        wipe();
        fault();
        lay();
        run();
        spoil();
        spoilSheet();
        undo();
        series();
        share();
        where();
        number();
        check();
        missed();
        note();
        star();
        starOf();
        judge();
        pack();
        count();
        due.end();
    }

    private static void counts(NotePress x, int... want) {
        for (int what = 0; what < want.length; what++) {
            due.is("count(" + what + ")", x.count(what), want[what]);
        }
    }

    private static void newObject() {
        due.part("1 new object");
        counts(new NotePress(), 2, 3, 12, 0, 0, 0, 0, 0, 0, 0);
        NotePress first = new NotePress();
        NotePress laid = Due.laid(FIRST);
        for (int s = 0; s < 3; s++) {
            for (int what = 0; what < 8; what++) {
                due.is("series as laid", first.series(s, what), laid.series(s, what));
            }
            for (int press = 0; press < 2; press++) {
                for (int what = 0; what < 4; what++) {
                    due.is("share as laid", first.share(s, press, what), laid.share(s, press, what));
                }
            }
        }
        due.is("fault of the empty text", first.fault(), NONE);
        due.is("wipe of the empty text", first.wipe(), 0);
        due.is("undo of nothing", first.undo(), NO);
        NotePress other = new NotePress();
        other.run(0, 0, 1);
        other.write('p');
        counts(new NotePress(), 2, 3, 12, 0, 0, 0, 0, 0, 0, 0);
    }

    private static void write() {
        due.part("2 write");
        NotePress x = new NotePress();
        due.is("write(32)", x.write(32), 1);
        due.is("write(126)", x.write(126), 2);
        due.is("write(31)", x.write(31), BAD);
        due.is("write(127)", x.write(127), BAD);
        for (int wild : WILD) {
            due.is("write(" + wild + ")", x.write(wild), BAD);
        }
        due.is("count(9)", x.count(9), 2);
        for (int length = 3; length <= 200; length++) {
            due.is("write up to 200", x.write('z'), length);
        }
        due.is("write behind 200", x.write('z'), FULL);
        due.is("write behind 200, BAD first", x.write(31), BAD);
        due.is("count(9)", x.count(9), 200);
        NotePress all = new NotePress();
        for (int letter = -40; letter <= 300; letter++) {
            boolean told = letter >= 32 && letter <= 126;
            due.is("write(" + letter + ")", all.write(letter), told ? letter - 31 : BAD);
        }
        due.is("all letters", all.count(9), 95);
    }

    private static void wipe() {
        due.part("3 wipe");
        NotePress x = Due.told("p4;sa,0,1;");
        x.run(0, 0, 2);
        due.is("wipe", x.wipe(), 10);
        due.is("count(9)", x.count(9), 0);
        due.is("wipe again", x.wipe(), 0);
        due.is("the first letter again", x.write('p'), 1);
        due.is("what is run stays", x.count(6), 2);
        NotePress full = new NotePress();
        for (int i = 0; i < 201; i++) {
            full.write(' ');
        }
        due.is("wipe of 200", full.wipe(), 200);
        due.is("write again", full.write(' '), 1);
    }

    private static void faultOf(String text, int want) {
        NotePress x = Due.told(text);
        due.is("fault of " + text, x.fault(), want);
        due.is("fault again of " + text, x.fault(), want);
        due.is("length behind fault", x.count(9), text.length());
        due.is("what is laid stays", x.count(0), 2);
    }

    private static void fault() {
        due.part("4 fault");
        String[] right = {"", FIRST, "p1;", "p8;", "p08;", "z0;", "z00;", "z99;", "z1;z2;", "p1;z5;p2;sa,0,1,1;z7;",
            "p1;sz,2,1;", "p1;sa,00,01;", "p1;sa,02,40;", "p8;p8;p8;p8;", "p1;sa,0,1;sb,0,1;sc,0,1;",
            "p8;p8;p8;p8;sa,0,40,40,40,4;", "p7;p1;sa,0,39,40;"};
        for (String text : right) {
            faultOf(text, NONE);
        }
        String[] wrongAtFirst = {";", " ", "p", "p;", "p1", "p0;", "p00;", "p9;", "p10;", "p001;", "p-1;", "p1,", "p 1;",
            "P1;", "z;", "z", "z1", "z100;", "z-1;", "z1,", "Z1;", "s", "sa;", "sa,0;", "sa,0,1;", "x1;", "1;", " p1;",
            "pp1;", "za;", "s,0,1;"};
        for (String text : wrongAtFirst) {
            faultOf(text, 0);
        }
        String[] wrongAtThree = {"p1; ", "p1;;", "p1;p9;", "p1;sa,0,0;", "p1;sa,0,00;", "p1;sa,0,41;", "p1;sa,3,1;",
            "p1;sa,0,1", "p1;sa,0,1,", "p1;sa,0,1,1;", "p1;sa,0;", "p1;sa,0,;", "p1;sa,,1;", "p1;sa0,1;", "p1;sa,01;",
            "p1;s`,0,1;", "p1;s{,0,1;", "p1;sA,0,1;", "p1;sab,0,1;", "p1;sa,0,001;", "p1;sa,000,1;", "p1;sa,0,1 ;",
            "p1;sa,0,99;", "p1;sa,10,1;", "p1;s1,0,1;", "p1;sa.0,1;", "p1;sa,0.1;"};
        for (String text : wrongAtThree) {
            faultOf(text, 3);
        }
        faultOf("p1;p1;p1;p1;p1;", 12);
        faultOf("p1;p1;p1;p1;p", 12);
        faultOf("p1;sa,0,1;p1;", 10);
        faultOf("p1;sa,0,1;sa,0,1;", 10);
        faultOf("p1;sa,0,1;sb,0,1;sb,2,1;", 17);
        faultOf("p1;sa,0,1;sb,0,1;sc,0,1;sd,0,1;", 24);
        faultOf("p1;sa,0,1;z7;p1;", 13);
        faultOf("p1;p1;sa,0,1;", 6);
        faultOf("p1;p1;sa,0,0,0;", 6);
        faultOf("p8;p8;p8;p8;sa,0,40,40,40,5;", 12);
        faultOf("p8;p8;p8;p1;sa,0,40,40,40,39;", NONE);
        faultOf("p8;p8;p8;p1;sa,0,40,40,40,40;", 12);
        faultOf("p5;p8;p8;p8;sa,0,40,40,40,20;", 12);
        faultOf("p5;p8;p8;p4;sa,0,39,40,40,40;", NONE);
        faultOf("z1;z2;p1;z3;q", 12);
        twoHundredLetters();
    }

    private static void twoHundredLetters() {
        StringBuilder stars = new StringBuilder();
        for (int i = 0; i < 50; i++) {
            stars.append("z10;");
        }
        faultOf(stars.toString(), NONE);
        stars.setCharAt(199, '1');
        faultOf(stars.toString(), 196);
        StringBuilder bare = new StringBuilder(";".repeat(200));
        faultOf(bare.toString(), 0);
        NotePress x = Due.told("z10;".repeat(49) + "z1;p");
        due.is("a letter behind 200", x.write('1'), FULL);
        due.is("the last item has no end", x.fault(), 199);
    }

    private static void lay() {
        due.part("5 lay");
        due.is("three series", Due.told(FIRST).lay(), 3);
        due.is("two series", Due.told("p1;sb,0,1;sa,0,1;").lay(), 2);
        due.is("one series", Due.told("z3;p1;sb,0,1;").lay(), 1);
        for (String text : new String[] {"", "p1;", "z5;", "p1;p2;z5;", "p1;sa,0,1;x", "p1;sa,0,1;sa,0,1;", "p1;sa,0,1"}) {
            NotePress x = new NotePress();
            x.run(0, 0, 5);
            x.spoil(0, 2);
            Due.rewrite(x, text);
            due.is("lay of " + text, x.lay(), NO);
            counts(x, 2, 3, 12, 1, 20, 1, 5, 0, 2, text.length());
        }
        NotePress x = new NotePress();
        x.run(0, 0, 10);
        x.spoil(0, 7);
        Due.rewrite(x, "p3;sa,0,10;");
        due.is("lay", x.lay(), 1);
        counts(x, 1, 1, 20, 0, 0, 0, 0, 0, 0, 11);
        due.is("not printed", x.note(0, 7), 0);
        due.is("no star of it", x.starOf(0, 7), NONE);
        due.is("undo behind lay", x.undo(), NO);
        x.run(0, 0, 10);
        due.is("the text stays, laid again", x.lay(), 1);
        counts(x, 1, 1, 20, 0, 0, 0, 0, 0, 0, 11);
        due.is("the last z counts", Due.laid("z5;p1;sa,0,1;z9;z8;").count(2), 8);
        due.is("no z", Due.laid("p1;sa,0,1;").count(2), 20);
        due.is("z0", Due.laid("p1;sa,0,1;z0;").count(2), 0);
        faultBetweenLeavesLaid();
        fewerPressesThanBefore();
    }

    private static void fewerPressesThanBefore() {
        NotePress x = Due.laid("p1;p2;p3;sa,0,1,2,3;sb,0,1,1,1;");
        for (int lays = 0; lays < 3; lays++) {
            x.run(0, 1, 1);
            x.run(0, 2, 3);
            x.run(1, 2, 1);
            Due.rewrite(x, lays < 1 ? "p1;p2;p3;sa,0,1,2,3;sb,0,1,1,1;" : "p4;sa,0,1;");
            x.lay();
        }
        counts(x, 1, 1, 20, 0, 0, 0, 0, 0, 0, 10);
        seriesIs(x, 0, 1, 0, 4, 0, 0, 1, 1, 0);
        due.is("no press 1", x.share(0, 1, 0), BAD);
        due.is("no series 1", x.series(1, 0), BAD);
        due.is("no number of press 1", x.where(0, 4, 0), BAD);
    }

    private static void faultBetweenLeavesLaid() {
        NotePress x = Due.laid("p2;sb,1,4;z3;");
        x.run(0, 0, 2);
        Due.rewrite(x, "p1;p1;sc,0,1,1;sd,0,2,2;z9;");
        due.is("fault of another text", x.fault(), NONE);
        counts(x, 1, 1, 3, 0, 4, 0, 2, 0, 1);
        due.is("LETTER", x.series(0, 0), 2);
        due.is("undo", x.undo(), 0);
        due.is("SHEETS RUN", x.share(0, 0, 1), 0);
    }

    private static void run() {
        due.part("6 run");
        NotePress x = new NotePress();
        due.is("run(0, 0, 1)", x.run(0, 0, 1), 4);
        due.is("run(0, 1, 5)", x.run(0, 1, 5), 10);
        due.is("run(0, 1, 1), none left", x.run(0, 1, 1), NO);
        due.is("run(0, 0, 10), nine left", x.run(0, 0, 10), NO);
        due.is("run(0, 0, 40)", x.run(0, 0, 40), NO);
        due.is("run(0, 0, 9)", x.run(0, 0, 9), 36);
        due.is("run(2, 1, 1), no sheets", x.run(2, 1, 1), NO);
        counts(x, 2, 3, 12, 0, 50, 0, 15, 5, 3);
        due.is("run(0, 0, 0)", x.run(0, 0, 0), BAD);
        due.is("run(0, 0, 41)", x.run(0, 0, 41), BAD);
        due.is("run(3, 0, 1)", x.run(3, 0, 1), BAD);
        due.is("run(0, 2, 1)", x.run(0, 2, 1), BAD);
        for (int wild : WILD) {
            due.is("wild SERIES", x.run(wild, 0, 1), BAD);
            due.is("wild PRESS", x.run(1, wild, 1), BAD);
            due.is("wild n", x.run(1, 0, wild), BAD);
        }
        counts(x, 2, 3, 12, 0, 50, 0, 15, 5, 3);
        NotePress most = Due.laid("p8;sa,0,40;");
        due.is("40 sheets", most.run(0, 0, 40), 320);
        NotePress next = Due.laid("p2;sa,0,5;");
        next.run(0, 0, 2);
        notesAre(next, 1, 1, 0, 0, 0, 1, 1, 0, 0, 0);
        next.run(0, 0, 2);
        notesAre(next, 1, 1, 1, 1, 0, 1, 1, 1, 1, 0);
    }

    private static void notesAre(NotePress x, int... want) {
        for (int number = 0; number < want.length; number++) {
            due.is("note(0, " + number + ")", x.note(0, number), want[number]);
        }
    }

    private static void spoil() {
        due.part("7 spoil");
        NotePress x = Due.laid("p2;sa,0,5;sb,1,5;z3;");
        due.is("not printed", x.spoil(0, 0), NO);
        x.run(0, 0, 3);
        x.run(1, 0, 5);
        due.is("the lowest star", x.spoil(0, 6), 0);
        due.is("it is spoiled", x.spoil(0, 6), NO);
        due.is("not printed", x.spoil(0, 4), NO);
        due.is("the same number of another series", x.spoil(1, 6), 1);
        due.is("undo", x.undo(), 3);
        due.is("the star is free again", x.spoil(0, 0), 1);
        due.is("the last star", x.spoil(1, 9), 2);
        due.is("no star is left", x.spoil(0, 1), FULL);
        due.is("NO is ahead of FULL: spoiled", x.spoil(0, 0), NO);
        due.is("NO is ahead of FULL: not printed", x.spoil(0, 9), NO);
        due.is("no such number", x.spoil(0, 10), BAD);
        due.is("no such series", x.spoil(2, 0), BAD);
        for (int wild : WILD) {
            due.is("wild SERIES", x.spoil(wild, 0), BAD);
            due.is("wild NUMBER", x.spoil(0, wild), BAD);
        }
        counts(x, 1, 2, 3, 3, 16, 3, 8, 1, 5);
        notesAre(x, 2, 1, 1, 0, 0, 1, 2, 1, 0, 0);
        NotePress none = Due.laid("p1;sa,0,1;z0;");
        none.run(0, 0, 1);
        due.is("no stars at all", none.spoil(0, 0), FULL);
        ninetyNineStars();
    }

    private static void ninetyNineStars() {
        NotePress x = Due.laid("p8;sa,0,40;z99;");
        x.run(0, 0, 40);
        for (int k = 0; k < 99; k++) {
            due.is("star " + k, x.spoil(0, 3 * k), k);
        }
        due.is("the hundredth", x.spoil(0, 1), FULL);
        due.is("STAR of the last", x.starOf(0, 294), 98);
    }

    private static void spoilSheet() {
        due.part("8 spoilSheet");
        NotePress x = Due.laid("p3;p2;sa,0,4,2;sb,0,3,0;z7;");
        due.is("not printed", x.spoilSheet(0, 0, 0), NO);
        x.run(0, 0, 3);
        x.run(0, 1, 2);
        due.is("not printed yet", x.spoilSheet(0, 0, 3), NO);
        due.is("a note of it first", x.spoil(0, 5), 0);
        due.is("the rest of it", x.spoilSheet(0, 0, 1), 2);
        due.is("PLACE 0 first", x.starOf(0, 1), 1);
        due.is("then PLACE 2", x.starOf(0, 9), 2);
        due.is("all are spoiled", x.spoilSheet(0, 0, 1), NO);
        due.is("the other press", x.spoilSheet(0, 1, 1), 2);
        due.is("PLACE 0 of it", x.starOf(0, 13), 3);
        due.is("PLACE 1 of it", x.starOf(0, 15), 4);
        due.is("stars for two of three", x.spoilSheet(0, 0, 0), FULL);
        due.is("nothing changes", x.count(5), 5);
        due.is("nothing changes", x.note(0, 0), 1);
        due.is("changes", x.count(8), 5);
        due.is("stars for the last two", x.spoilSheet(0, 1, 0), 2);
        due.is("NO is ahead of FULL", x.spoilSheet(0, 1, 0), NO);
        due.is("NO is ahead of FULL", x.spoilSheet(0, 0, 3), NO);
        due.is("no such sheet", x.spoilSheet(0, 0, 4), BAD);
        due.is("no such sheet", x.spoilSheet(0, 1, 2), BAD);
        due.is("no sheets", x.spoilSheet(1, 1, 0), BAD);
        due.is("no such press", x.spoilSheet(0, 2, 0), BAD);
        due.is("no such series", x.spoilSheet(2, 0, 0), BAD);
        for (int wild : WILD) {
            due.is("wild SERIES", x.spoilSheet(wild, 0, 0), BAD);
            due.is("wild PRESS", x.spoilSheet(0, wild, 0), BAD);
            due.is("wild SHEET", x.spoilSheet(0, 0, wild), BAD);
        }
        counts(x, 2, 2, 7, 7, 13, 7, 5, 0, 6);
        NotePress three = Due.laid("p3;sa,0,1;z3;");
        three.run(0, 0, 1);
        due.is("as many stars as notes", three.spoilSheet(0, 0, 0), 3);
        NotePress two = Due.laid("p3;sa,0,1;z2;");
        two.run(0, 0, 1);
        due.is("one star short", two.spoilSheet(0, 0, 0), FULL);
        due.is("one of them", two.spoil(0, 1), 0);
        due.is("still one short", two.spoilSheet(0, 0, 0), FULL);
    }

    private static void undo() {
        due.part("9 undo");
        NotePress x = new NotePress();
        due.is("nothing yet", x.undo(), NO);
        x.run(0, 0, 2);
        x.run(0, 1, 3);
        x.spoil(0, 1);
        x.spoilSheet(0, 0, 1);
        x.run(0, 0, 1);
        counts(x, 2, 3, 12, 4, 18, 4, 6, 0, 5);
        due.is("the run", x.undo(), 4);
        counts(x, 2, 3, 12, 4, 14, 4, 5, 0, 4);
        due.is("the sheet", x.undo(), 3);
        counts(x, 2, 3, 12, 1, 14, 1, 5, 0, 3);
        due.is("its note stays spoiled", x.note(0, 1), 2);
        due.is("the others are not", x.note(0, 11), 1);
        due.is("the note", x.undo(), 2);
        due.is("it is printed", x.note(0, 1), 1);
        due.is("its star is free", x.star(0, 0), NONE);
        due.is("the run of press 1", x.undo(), 1);
        due.is("press 1", x.share(0, 1, 1), 0);
        due.is("press 0", x.share(0, 0, 1), 2);
        due.is("the first run", x.undo(), 0);
        due.is("no more", x.undo(), NO);
        counts(x, 2, 3, 12, 0, 0, 0, 0, 0, 0);
        lastSixOnly();
        refusedIsNoChange();
    }

    private static void lastSixOnly() {
        NotePress x = new NotePress();
        for (int n = 1; n <= 8; n++) {
            x.run(0, 0, 1);
            due.is("changes that can be undone", x.count(8), Math.min(n, 6));
        }
        due.is("undo", x.undo(), 5);
        due.is("a change more", x.spoil(0, 0), 0);
        due.is("six again", x.count(8), 6);
        for (int more = 5; more >= 0; more--) {
            due.is("undo", x.undo(), more);
        }
        due.is("the seventh", x.undo(), NO);
        due.is("the first two stay", x.share(0, 0, 1), 2);
        due.is("nothing is spoiled", x.count(5), 0);
        NotePress mixed = new NotePress();
        mixed.run(0, 0, 10);
        for (int number = 0; number < 7; number++) {
            mixed.spoil(0, number);
        }
        for (int more = 5; more >= 0; more--) {
            mixed.undo();
        }
        due.is("the first spoiled one stays", mixed.note(0, 0), 2);
        due.is("the second does not", mixed.note(0, 1), 1);
        due.is("the next star", mixed.spoil(0, 9), 1);
    }

    private static void refusedIsNoChange() {
        NotePress x = new NotePress();
        x.run(0, 0, 1);
        x.run(0, 0, 10);
        x.run(9, 0, 1);
        x.spoil(0, 1);
        x.spoilSheet(0, 0, 1);
        x.lay();
        due.is("one change", x.count(8), 1);
        due.is("undo", x.undo(), 0);
    }

    private static void series() {
        due.part("10 series");
        NotePress x = Due.laid("p8;p3;sz,2,4,3;sm,1,0,1;z9;");
        seriesIs(x, 0, 26, 2, 41, 0, 0, 7, 5, 0);
        seriesIs(x, 1, 13, 1, 3, 0, 0, 1, 1, 0);
        x.run(0, 0, 3);
        x.run(0, 1, 3);
        seriesIs(x, 0, 26, 2, 41, 33, 0, 1, 5, 1);
        x.spoilSheet(0, 0, 2);
        x.run(0, 0, 1);
        seriesIs(x, 0, 26, 2, 41, 41, 8, 0, 5, 5);
        seriesIs(x, 1, 13, 1, 3, 0, 0, 1, 1, 0);
        x.run(1, 1, 1);
        x.spoil(1, 2);
        seriesIs(x, 1, 13, 1, 3, 3, 1, 0, 1, 1);
        due.is("PACKS of 10", Due.laid("p5;sa,0,2;").series(0, 6), 1);
        due.is("PACKS of 11", Due.laid("p1;sa,0,11;").series(0, 6), 2);
        due.is("PACKS of 999", Due.laid("p8;p8;p8;p1;sa,0,40,40,40,39;").series(0, 6), 100);
        due.is("M of 999", Due.laid("p8;p8;p8;p1;sa,0,40,40,40,39;").series(0, 2), 999);
        for (int what = 0; what < 8; what++) {
            due.is("no such series", x.series(2, what), BAD);
            due.is("no such series", x.series(-1, what), BAD);
        }
        due.is("no such what", x.series(0, 8), BAD);
        for (int wild : WILD) {
            due.is("wild SERIES", x.series(wild, 0), BAD);
            due.is("wild what", x.series(0, wild), BAD);
        }
    }

    private static void seriesIs(NotePress x, int s, int... want) {
        for (int what = 0; what < want.length; what++) {
            due.is("series(" + s + ", " + what + ")", x.series(s, what), want[what]);
        }
    }

    private static void share() {
        due.part("11 share");
        NotePress x = Due.laid("p8;p3;p1;p2;sz,2,0,3,0,40;sb,0,1,0,7,0;");
        x.run(0, 1, 2);
        x.run(1, 2, 7);
        shareIs(x, 0, 0, 0, 0, 0, 8);
        shareIs(x, 0, 1, 3, 2, 0, 3);
        shareIs(x, 0, 2, 0, 0, 9, 1);
        shareIs(x, 0, 3, 40, 0, 9, 2);
        shareIs(x, 1, 0, 1, 0, 0, 8);
        shareIs(x, 1, 1, 0, 0, 8, 3);
        shareIs(x, 1, 2, 7, 7, 8, 1);
        shareIs(x, 1, 3, 0, 0, 15, 2);
        due.is("no such series", x.share(2, 0, 0), BAD);
        due.is("no such press", x.share(0, 4, 0), BAD);
        due.is("no such press here", new NotePress().share(0, 2, 0), BAD);
        due.is("no such what", x.share(0, 0, 4), BAD);
        for (int wild : WILD) {
            due.is("wild SERIES", x.share(wild, 0, 0), BAD);
            due.is("wild PRESS", x.share(0, wild, 0), BAD);
            due.is("wild what", x.share(0, 0, wild), BAD);
        }
    }

    private static void shareIs(NotePress x, int s, int press, int... want) {
        for (int what = 0; what < want.length; what++) {
            due.is("share(" + s + ", " + press + ", " + what + ")", x.share(s, press, what), want[what]);
        }
    }

    private static void where() {
        due.part("12 where");
        NotePress x = Due.laid("p2;p8;p3;sa,0,4,0,5;");
        whereIs(x, 0, 0, 0, 0);
        whereIs(x, 3, 0, 3, 0);
        whereIs(x, 4, 0, 0, 1);
        whereIs(x, 7, 0, 3, 1);
        whereIs(x, 8, 2, 0, 0);
        whereIs(x, 13, 2, 0, 1);
        whereIs(x, 17, 2, 4, 1);
        whereIs(x, 22, 2, 4, 2);
        NotePress oneSheet = Due.laid("p1;p8;sa,0,1,1;");
        whereIs(oneSheet, 0, 0, 0, 0);
        whereIs(oneSheet, 1, 1, 0, 0);
        whereIs(oneSheet, 8, 1, 0, 7);
        for (int what = 0; what < 3; what++) {
            due.is("no such number", x.where(0, 23, what), BAD);
            due.is("no such number", x.where(0, -1, what), BAD);
            due.is("no such series", x.where(1, 0, what), BAD);
        }
        due.is("no such what", x.where(0, 0, 3), BAD);
        for (int wild : WILD) {
            due.is("wild SERIES", x.where(wild, 0, 0), BAD);
            due.is("wild NUMBER", x.where(0, wild, 0), BAD);
            due.is("wild what", x.where(0, 0, wild), BAD);
        }
    }

    private static void whereIs(NotePress x, int number, int... want) {
        for (int what = 0; what < want.length; what++) {
            due.is("where(0, " + number + ", " + what + ")", x.where(0, number, what), want[what]);
        }
    }

    private static void number() {
        due.part("13 number");
        NotePress x = Due.laid("p2;p8;p3;sa,0,4,0,5;");
        int next = 0;
        for (int press = 0; press <= 2; press += 2) {
            for (int place = 0; place < x.share(0, press, 3); place++) {
                for (int sheet = 0; sheet < x.share(0, press, 0); sheet++) {
                    due.is("what is cut from one place runs on", x.number(0, press, sheet, place), next);
                    next++;
                }
            }
        }
        due.is("all numbers", next, 23);
        due.is("no such sheet", x.number(0, 0, 4, 0), BAD);
        due.is("no such place", x.number(0, 0, 0, 2), BAD);
        due.is("a place, but not of this press", x.number(0, 2, 0, 3), BAD);
        due.is("no sheets", x.number(0, 1, 0, 0), BAD);
        due.is("no such press", x.number(0, 3, 0, 0), BAD);
        due.is("no such series", x.number(1, 0, 0, 0), BAD);
        for (int wild : WILD) {
            due.is("wild SERIES", x.number(wild, 0, 0, 0), BAD);
            due.is("wild PRESS", x.number(0, wild, 0, 0), BAD);
            due.is("wild SHEET", x.number(0, 0, wild, 0), BAD);
            due.is("wild PLACE", x.number(0, 0, 0, wild), BAD);
        }
    }

    private static void check() {
        due.part("14 check");
        for (int letter = 1; letter <= 26; letter++) {
            checksOfLetter(letter);
        }
        NotePress x = new NotePress();
        due.is("check(3, 0)", x.check(3, 0), BAD);
        due.is("check(0, 1000)", x.check(0, 1000), BAD);
        due.is("check(0, -1)", x.check(0, -1), BAD);
        for (int wild : WILD) {
            due.is("wild SERIES", x.check(wild, 0), BAD);
            due.is("wild number", x.check(0, wild), BAD);
        }
    }

    /** An object for each letter and hundred, as one is used for 512 calls at most. */
    private static void checksOfLetter(int letter) {
        for (int kind = 0; kind < 3; kind++) {
            for (int hundred = 0; hundred < 1000; hundred += 100) {
                NotePress x = Due.laid("p1;s" + (char) ('a' + letter - 1) + "," + kind + ",1;");
                for (int number = hundred; number < hundred + 100; number++) {
                    due.is("check " + letter + " " + kind + " " + number, x.check(0, number),
                        Model.check(kind, letter, number));
                }
            }
        }
    }

    private static void missed() {
        due.part("15 missed");
        for (int kind = 0; kind < 3; kind++) {
            for (int letter = 1; letter <= 26; letter += 3) {
                for (int hundred = 0; hundred < 1000; hundred += 100) {
                    NotePress x = Due.laid("p1;s" + (char) ('a' + letter - 1) + "," + kind + ",1;");
                    for (int number = hundred; number < hundred + 100; number++) {
                        due.is("changes " + kind + " " + number, x.missed(0, number, 0),
                            Model.missedChanges(kind, letter, number));
                        due.is("swaps " + kind + " " + number, x.missed(0, number, 1),
                            Model.missedSwaps(kind, letter, number));
                    }
                }
            }
        }
        NotePress x = new NotePress();
        due.is("0 for 9 and 9 for 0", x.missed(0, 909, 0), 3);
        due.is("like figures are no swap", x.missed(0, 111, 1), 0);
        due.is("missed(3, 0, 0)", x.missed(3, 0, 0), BAD);
        due.is("missed(0, 1000, 0)", x.missed(0, 1000, 0), BAD);
        due.is("missed(0, 0, 2)", x.missed(0, 0, 2), BAD);
        for (int wild : WILD) {
            due.is("wild SERIES", x.missed(wild, 0, 0), BAD);
            due.is("wild number", x.missed(0, wild, 1), BAD);
            due.is("wild what", x.missed(0, 0, wild), BAD);
        }
    }

    private static void note() {
        due.part("16 note");
        NotePress x = Due.laid("p2;p1;sa,0,3,2;sb,0,0,2;");
        notesAre(x, 0, 0, 0, 0, 0, 0, 0, 0, BAD);
        x.run(0, 1, 1);
        x.run(0, 0, 2);
        notesAre(x, 1, 1, 0, 1, 1, 0, 1, 0, BAD);
        x.spoil(0, 4);
        x.spoilSheet(0, 1, 0);
        notesAre(x, 1, 1, 0, 1, 2, 0, 2, 0, BAD);
        due.is("another series", x.note(1, 0), 0);
        x.undo();
        notesAre(x, 1, 1, 0, 1, 2, 0, 1, 0, BAD);
        due.is("no such series", x.note(2, 0), BAD);
        for (int wild : WILD) {
            due.is("wild SERIES", x.note(wild, 0), BAD);
            due.is("wild NUMBER", x.note(0, wild), BAD);
        }
    }

    private static void star() {
        due.part("17 star");
        NotePress x = Due.laid("p2;sa,0,3;sb,0,3;z99;");
        due.is("SERIES of none", x.star(0, 0), NONE);
        due.is("NUMBER of none", x.star(0, 1), NONE);
        x.run(0, 0, 3);
        x.run(1, 0, 3);
        x.spoil(1, 4);
        x.spoil(0, 5);
        due.is("SERIES of 0", x.star(0, 0), 1);
        due.is("NUMBER of 0", x.star(0, 1), 4);
        due.is("SERIES of 1", x.star(1, 0), 0);
        due.is("NUMBER of 1", x.star(1, 1), 5);
        due.is("SERIES of 2", x.star(2, 0), NONE);
        for (int k = 0; k < 99; k++) {
            due.is("CHECK of " + k, x.star(k, 2), Model.check(1, 0, k));
        }
        x.undo();
        due.is("SERIES of 1, undone", x.star(1, 0), NONE);
        due.is("NUMBER of 1, undone", x.star(1, 1), NONE);
        due.is("no such what", x.star(0, 3), BAD);
        due.is("no such star", x.star(99, 0), BAD);
        due.is("no such star here", new NotePress().star(12, 2), BAD);
        due.is("the last star here", new NotePress().star(11, 0), NONE);
        due.is("BAD is ahead of NONE", new NotePress().star(11, -1), BAD);
        for (int wild : WILD) {
            due.is("wild STAR", x.star(wild, 2), BAD);
            due.is("wild what", x.star(0, wild), BAD);
        }
    }

    private static void starOf() {
        due.part("18 starOf");
        NotePress x = Due.laid("p2;sa,0,3;sb,0,3;z99;");
        due.is("not printed", x.starOf(0, 0), NONE);
        x.run(0, 0, 3);
        x.run(1, 0, 3);
        due.is("not spoiled", x.starOf(0, 0), NONE);
        x.spoil(0, 3);
        x.spoilSheet(1, 0, 0);
        due.is("starOf(0, 3)", x.starOf(0, 3), 0);
        due.is("starOf(1, 0)", x.starOf(1, 0), 1);
        due.is("starOf(1, 3)", x.starOf(1, 3), 2);
        due.is("starOf(0, 0)", x.starOf(0, 0), NONE);
        x.undo();
        due.is("starOf(1, 3), undone", x.starOf(1, 3), NONE);
        due.is("no such number", x.starOf(0, 6), BAD);
        due.is("no such series", x.starOf(2, 0), BAD);
        for (int wild : WILD) {
            due.is("wild SERIES", x.starOf(wild, 0), BAD);
            due.is("wild NUMBER", x.starOf(0, wild), BAD);
        }
    }

    private static void judge() {
        due.part("19 judge");
        NotePress x = Due.laid("p2;sb,1,3;sz,2,2;z4;");
        int right = x.check(0, 1);
        due.is("no series has it", x.judge(1, 1, right), 1);
        due.is("no number of it", x.judge(2, 6, x.check(0, 6)), 2);
        due.is("not the check", x.judge(2, 1, right + 1), 3);
        due.is("not printed", x.judge(2, 1, right), 4);
        x.run(0, 0, 2);
        due.is("printed", x.judge(2, 1, right), 0);
        due.is("not the check, printed", x.judge(2, 1, 99), 3);
        due.is("still not printed", x.judge(2, 2, x.check(0, 2)), 4);
        due.is("a star that stands for none", x.judge(0, 0, 0), 4);
        x.spoil(0, 1);
        due.is("spoiled", x.judge(2, 1, right), 5);
        due.is("another one", x.judge(2, 0, x.check(0, 0)), 0);
        due.is("its star", x.judge(0, 0, 0), 0);
        due.is("its star, not the check", x.judge(0, 0, 1), 3);
        due.is("the next star", x.judge(0, 1, 9), 4);
        due.is("the next star, not the check", x.judge(0, 1, 8), 3);
        due.is("no such star", x.judge(0, 4, 3), 2);
        due.is("the last letter", x.judge(26, 0, x.check(1, 0)), 4);
        due.is("its numbers", x.judge(26, 4, x.check(1, 4)), 2);
        due.is("all wrong: the letter first", x.judge(25, 999, 99), 1);
        due.is("the number before the check", x.judge(26, 999, 99), 2);
        due.is("the number before the check of a star", x.judge(0, 999, 99), 2);
        due.is("no letter", x.judge(27, 0, 0), BAD);
        due.is("no letter", x.judge(-1, 0, 0), BAD);
        due.is("no number", x.judge(1, 1000, 0), BAD);
        due.is("no number", x.judge(1, -1, 0), BAD);
        due.is("no check", x.judge(1, 0, 100), BAD);
        due.is("no check", x.judge(1, 0, -1), BAD);
        for (int wild : WILD) {
            due.is("wild LETTER", x.judge(wild, 0, 0), BAD);
            due.is("wild NUMBER", x.judge(0, wild, 0), BAD);
            due.is("wild CHECK", x.judge(0, 0, wild), BAD);
        }
        counts(x, 1, 2, 4, 1, 4, 1, 2, 0, 2);
    }

    private static void pack() {
        due.part("20 pack");
        NotePress x = Due.laid("p2;p1;sa,0,10,3;sb,0,0,1;");
        x.run(0, 0, 9);
        due.is("nine are printed", x.pack(0, 0, 0), NO);
        due.is("the last pack", x.pack(0, 2, 0), NO);
        due.is("NO is ahead of NONE", x.pack(0, 2, 3), NO);
        x.run(0, 0, 1);
        x.run(0, 1, 3);
        for (int i = 0; i < 10; i++) {
            due.is("pack(0, 1, " + i + ")", x.pack(0, 1, i), 10 + i);
            due.is("pack(0, 2, " + i + ")", x.pack(0, 2, i), i < 3 ? 20 + i : NONE);
        }
        x.spoil(0, 22);
        x.spoil(0, 10);
        due.is("a star in its place", x.pack(0, 1, 0), STAR + 1);
        due.is("a star in its place", x.pack(0, 2, 2), STAR);
        due.is("the next one", x.pack(0, 1, 1), 11);
        due.is("another pack", x.pack(0, 0, 0), 0);
        x.undo();
        due.is("the note again", x.pack(0, 1, 0), 10);
        due.is("a pack of one, not whole", x.pack(1, 0, 0), NO);
        x.run(1, 1, 1);
        due.is("a pack of one", x.pack(1, 0, 0), 0);
        due.is("a pack of one has no second", x.pack(1, 0, 1), NONE);
        due.is("no such pack", x.pack(0, 3, 0), BAD);
        due.is("no such pack", x.pack(1, 1, 0), BAD);
        due.is("no such place", x.pack(0, 2, 10), BAD);
        due.is("no such place", x.pack(0, 2, -1), BAD);
        due.is("no such series", x.pack(2, 0, 0), BAD);
        for (int wild : WILD) {
            due.is("wild SERIES", x.pack(wild, 0, 0), BAD);
            due.is("wild PACK", x.pack(0, wild, 0), BAD);
            due.is("wild place", x.pack(0, 0, wild), BAD);
        }
        NotePress most = Due.laid("p8;p8;p8;p1;sa,0,40,40,40,39;");
        for (int press = 0; press < 4; press++) {
            most.run(0, press, most.share(0, press, 0));
        }
        due.is("the last of 999", most.pack(0, 99, 8), 998);
        due.is("behind it", most.pack(0, 99, 9), NONE);
        due.is("no such pack", most.pack(0, 100, 0), BAD);
    }

    private static void count() {
        due.part("21 count");
        NotePress x = Due.laid("p5;p1;p1;sa,0,2,9,0;sb,1,4,0,1;z7;");
        counts(x, 3, 2, 7, 0, 0, 0, 0, 0, 0, 34);
        x.run(0, 0, 2);
        x.run(1, 0, 3);
        x.run(1, 2, 1);
        counts(x, 3, 2, 7, 0, 26, 0, 6, 2, 3, 34);
        x.run(1, 0, 1);
        x.spoilSheet(1, 0, 3);
        x.spoil(0, 9);
        counts(x, 3, 2, 7, 6, 31, 6, 7, 4, 6, 34);
        x.undo();
        x.write('a');
        counts(x, 3, 2, 7, 5, 31, 5, 7, 4, 5, 35);
        due.is("count(10)", x.count(10), BAD);
        for (int wild : WILD) {
            due.is("wild what", x.count(wild), BAD);
        }
    }
}
