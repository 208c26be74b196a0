/** The bounds in the document's "Terms", a method for each sentence that names one. */
public final class TermsTests {
    private static final int BAD = NotePress.BAD, NO = NotePress.NO, FULL = NotePress.FULL, NONE = NotePress.NONE;
    private static final int STAR = NotePress.STAR;
    private static final String FIRST = "p4;p2;sa,0,10,5;sc,1,3,9;se,2,6,0;z12;";
    /** 999 notes, as many as a series can have. */
    private static final String MOST = "p8;p8;p8;p1;sa,0,40,40,40,39;z99;";
    private static final Due due = new Due();

    public static void main(String[] args) {
        text();
        plan();
        checks();
        printed();
        judged();
        packs();
        undone();
        order();
        due.end();
    }

    private static void faultOf(String text, int want) {
        NotePress x = Due.told(text);
        due.is("fault of " + text, x.fault(), want);
        if (want != NONE) {
            due.is("lay of " + text, x.lay(), NO);
        }
    }

    private static void counts(NotePress x, int... want) {
        for (int what = 0; what < want.length; what++) {
            due.is("count(" + what + ")", x.count(what), want[what]);
        }
    }

    // ---- the text

    private static void text() {
        textHasTwoHundredAtMost();
        textIsFullWithinAnItem();
        semicolonBehindEach();
        numbersHaveOneOrTwoFigures();
        pressesAheadOfSeries();
        letterThatNoOtherHas();
        sheetsForEachPressTold();
        starsAreTwentyWithout();
        lastStarsCount();
        firstItemThatIsNotSo();
        itemOneTooMany();
        faultWhileItIsWritten();
    }

    private static void textHasTwoHundredAtMost() {
        due.part("THE TEXT is letters (200 at most)");
        NotePress x = Due.told("z10;".repeat(49) + "z9;");
        due.is("199 letters", x.count(9), 199);
        due.is("the 200th", x.write('p'), 200);
        due.is("the 201st", x.write('1'), FULL);
        due.is("still 200", x.count(9), 200);
        due.is("the 200th is read", x.fault(), 199);
        due.is("all are wiped", x.wipe(), 200);
        due.is("the first again", x.write('p'), 1);
        String full = "p8;sa,0,40;" + "z10;".repeat(45) + "z1;z2;z7;";
        due.is("a text of 200", full.length(), 200);
        NotePress most = Due.told(full);
        due.is("no fault in 200", most.fault(), NONE);
        due.is("200 are laid", most.lay(), 1);
        counts(most, 1, 1, 7, 0, 0, 0, 0, 0, 0, 200);
        faultOf(full.substring(0, 199), 197);
    }

    /** The last item is cut off at each of its places by the text's end, and nothing behind that end is read. */
    private static void textIsFullWithinAnItem() {
        due.part("an ITEM for which THE TEXT has no room");
        for (String item : new String[] {"p1;", "p08;", "z5;", "z99;", "sb,0,1;", "sb,02,40;"}) {
            String ahead = item.startsWith("p") ? "p1;" : "p1;sa,0,1;";
            for (int kept = 1; kept < item.length(); kept++) {
                NotePress x = Due.told(filled(ahead, 200 - kept) + item);
                due.is("200 of " + item + " cut at " + kept, x.count(9), 200);
                due.is("fault of " + item + " cut at " + kept, x.fault(), 200 - kept);
                due.is("lay of " + item + " cut at " + kept, x.lay(), NO);
            }
            faultOf(filled(ahead, 200 - item.length()) + item, NONE);
        }
        wipedLettersAreNotRead();
    }

    /** The text with as many stars told behind it as make it so long. */
    private static String filled(String text, int length) {
        StringBuilder filled = new StringBuilder(text);
        while ((length - filled.length()) % 4 != 0) {
            filled.append("z1;");
        }
        return filled.append("z10;".repeat((length - filled.length()) / 4)).toString();
    }

    private static void wipedLettersAreNotRead() {
        String text = "p1;sa,0,1;";
        for (int kept = 0; kept < text.length(); kept++) {
            NotePress x = Due.told(text);
            Due.rewrite(x, text.substring(0, kept));
            due.is("wiped, the first " + kept + " again", x.fault(), kept == 0 || kept == 3 ? NONE : kept < 3 ? 0 : 3);
            due.is("lay of them", x.lay(), NO);
        }
    }

    private static void semicolonBehindEach() {
        due.part("A TEXT is ITEMS one behind the other, a ; behind each");
        faultOf("", NONE);
        faultOf(";", 0);
        faultOf("p1;;", 3);
        faultOf("p1;;p1;", 3);
        faultOf("p1", 0);
        faultOf("p1p1;", 0);
        faultOf("p1,p1;", 0);
        faultOf("p1;z5", 3);
        faultOf("p1;z5z6;", 3);
        faultOf("p1;sa,0,1", 3);
        faultOf("p1;sa,0,1z5;", 3);
        faultOf("p1; p1;", 3);
        faultOf("p1 ;", 0);
        faultOf("p1:", 0);
    }

    private static void numbersHaveOneOrTwoFigures() {
        due.part("numbers have one or two figures");
        faultOf("p;", 0);
        faultOf("p001;", 0);
        faultOf("p004;", 0);
        faultOf("z;", 0);
        faultOf("z000;", 0);
        faultOf("z100;", 0);
        faultOf("p1;sa,,1;", 3);
        faultOf("p1;sa,000,1;", 3);
        faultOf("p1;sa,0,;", 3);
        faultOf("p1;sa,0,001;", 3);
        faultOf("p1;sa,0,100;", 3);
        faultOf("p08;", NONE);
        faultOf("z00;", NONE);
        faultOf("p1;sa,02,01;", NONE);
        for (char sign = 32; sign <= 126; sign++) {
            boolean figure = sign >= '0' && sign <= '9';
            faultOf("z" + sign + ";", figure ? NONE : 0);
            faultOf("z" + sign + "5;", figure ? NONE : 0);
            // A ; ends the item, so that the one behind it is at fault.
            faultOf("z5" + sign + ";", figure ? NONE : sign == ';' ? 3 : 0);
            faultOf(sign + "5;", sign == 'p' || sign == 'z' ? NONE : 0);
        }
    }

    private static void pressesAheadOfSeries() {
        due.part("all PRESSES ahead of all SERIES");
        faultOf("p1;sa,0,1;p1;", 10);
        faultOf("p1;sa,0,1;sb,0,1;p1;", 17);
        faultOf("p1;sa,0,1;z5;p1;", 13);
        faultOf("z5;p1;z6;p1;z7;sa,0,1,1;z8;", NONE);
        faultOf("sa,0;p1;", 0);
        faultOf("sa,0,1;p1;", 0);
    }

    private static void letterThatNoOtherHas() {
        due.part("LETTER X (that no other has)");
        faultOf("p1;sa,0,1;sa,0,1;", 10);
        faultOf("p1;sa,0,1;sb,0,1;sa,1,1;", 17);
        faultOf("p1;sa,0,1;sb,0,1;sb,1,1;", 17);
        faultOf("p1;sz,0,1;sy,0,1;sa,1,1;", NONE);
        NotePress x = Due.laid("p1;sb,0,1;sc,0,1;");
        Due.rewrite(x, "p1;sc,0,1;sb,0,1;");
        due.is("letters that were laid before", x.fault(), NONE);
        due.is("lay", x.lay(), 2);
        due.is("LETTER of 0", x.series(0, 0), 3);
        due.is("LETTER of 1", x.series(1, 0), 2);
        Due.rewrite(x, "p1;sb,0,1;sa,0,");
        due.is("a text read as far as its fault", x.fault(), 10);
        Due.rewrite(x, "p1;sa,0,1;sb,0,1;");
        due.is("does not keep the letters of the one before", x.fault(), NONE);
    }

    private static void sheetsForEachPressTold() {
        due.part("an S for each PRESS told");
        for (int presses = 0; presses <= 4; presses++) {
            for (int sheets = 0; sheets <= 6; sheets++) {
                String text = "p1;".repeat(presses) + "sa,0" + ",1".repeat(sheets) + ";";
                faultOf(text, sheets == presses && presses > 0 ? NONE : 3 * presses);
            }
        }
    }

    private static void starsAreTwentyWithout() {
        due.part("20 without");
        NotePress x = Due.laid("p1;sa,0,1;z5;");
        due.is("told", x.count(2), 5);
        Due.rewrite(x, "p1;sa,0,1;");
        x.lay();
        due.is("20, not what was laid before", x.count(2), 20);
        due.is("the last STAR", x.star(19, 0), NONE);
        due.is("behind it", x.star(20, 0), BAD);
    }

    private static void lastStarsCount() {
        due.part("of several the last one counts");
        due.is("one ahead, one behind", Due.laid("z5;p1;sa,0,1;z3;").count(2), 3);
        due.is("the last is higher", Due.laid("z3;p1;z4;sa,0,1;z99;").count(2), 99);
        due.is("the last is 0", Due.laid("z3;p1;sa,0,1;z0;").count(2), 0);
        due.is("the last is 20", Due.laid("z3;z20;p1;sa,0,1;").count(2), 20);
    }

    private static void firstItemThatIsNotSo() {
        due.part("the first letter of the first ITEM that is not so");
        faultOf("x", 0);
        faultOf("p9;p9;", 0);
        faultOf("p1;p9;p9;", 3);
        faultOf("p1;p2;z7;sa,0,1;", 9);
        faultOf("p1;p2;z7;sa,0,1,1;q", 18);
        faultOf("p1;sa,3,1;sa,0,1;", 3);
        faultOf("p1;sa,0,1;sb,3,1;x", 10);
        faultOf("p1;z100;x;", 3);
        for (char sign = 32; sign <= 126; sign++) {
            if (sign != 'p' && sign != 'z' && sign != 's') {
                faultOf("p1;" + sign + "1;", 3);
            }
        }
    }

    private static void itemOneTooMany() {
        due.part("or is one too many");
        faultOf("p1;p1;p1;p1;p1;sa,0,1,1,1,1;", 12);
        faultOf("p1;p1;p1;p1;z1;p1;", 15);
        faultOf("p1;sa,0,1;sb,0,1;sc,0,1;sd,0,1;", 24);
        faultOf("p1;sa,0,1;sb,0,1;sc,0,1;z9;sd,0,1;z9;", 27);
        faultOf("p1;sa,0,1;sb,0,1;sc,0,1;z1;z2;z3;z4;z5;z6;z7;z8;", NONE);
    }

    /** An item begun is at fault until its ; is there; the text has no fault right behind each ; of the right ones. */
    private static void faultWhileItIsWritten() {
        due.part("FAULT while a text is written");
        NotePress x = new NotePress();
        int item = 0;
        for (int i = 0; i < FIRST.length(); i++) {
            x.write(FIRST.charAt(i));
            boolean ended = FIRST.charAt(i) == ';';
            due.is("fault of " + FIRST.substring(0, i + 1), x.fault(), ended ? NONE : item);
            item = ended ? i + 1 : item;
        }
        due.is("lay", x.lay(), 3);
    }

    // ---- what it tells

    private static void plan() {
        pressesFourAtMost();
        placesOneToEight();
        seriesThreeAtMost();
        letterAToZ();
        kindZeroToTwo();
        sheetsZeroToForty();
        notesOneTo999();
        starsZeroTo99();
        numbersRunOn();
        pressesOneBehindTheOther();
        laidWithASeriesAtLeast();
        laidAtFirst();
        laidNothingIsPrinted();
        laidTheTextStays();
    }

    private static void pressesFourAtMost() {
        due.part("PRESSES (4 at most)");
        NotePress x = Due.laid("p1;p2;p3;p4;sa,0,1,1,1,1;");
        due.is("PRESSES", x.count(0), 4);
        for (int press = 0; press < 4; press++) {
            due.is("PLACES of " + press, x.share(0, press, 3), press + 1);
            due.is("run of " + press, x.run(0, press, 1), press + 1);
        }
        due.is("a fifth", x.share(0, 4, 3), BAD);
        due.is("run of a fifth", x.run(0, 4, 1), BAD);
        faultOf("p1;p2;p3;p4;p5;", 12);
        NotePress one = Due.laid("p5;sa,0,1;");
        due.is("one PRESS", one.count(0), 1);
        due.is("no second", one.share(0, 1, 0), BAD);
        faultOf("sa,0;", 0);
    }

    private static void placesOneToEight() {
        due.part("PLACES (1 to 8)");
        for (int places = 0; places <= 99; places++) {
            faultOf("p" + places + ";", places >= 1 && places <= 8 ? NONE : 0);
        }
        for (int places = 1; places <= 8; places++) {
            NotePress x = Due.laid("p" + places + ";sa,0,2;");
            due.is("PLACES", x.share(0, 0, 3), places);
            due.is("M", x.series(0, 2), 2 * places);
            due.is("the last PLACE", x.number(0, 0, 1, places - 1), 2 * places - 1);
            due.is("behind it", x.number(0, 0, 1, places), BAD);
            due.is("NOTES of a SHEET", x.run(0, 0, 1), places);
            due.is("SPOILED of a SHEET", x.spoilSheet(0, 0, 0), places);
        }
    }

    private static void seriesThreeAtMost() {
        due.part("SERIES (3 at most)");
        NotePress x = Due.told("p1;sa,0,1;sb,1,2;sc,2,3;");
        due.is("lay", x.lay(), 3);
        due.is("SERIES", x.count(1), 3);
        due.is("M of the last", x.series(2, 2), 3);
        due.is("a fourth", x.series(3, 2), BAD);
        faultOf("p1;sa,0,1;sb,1,2;sc,2,3;sd,0,4;", 24);
        NotePress one = Due.laid("p1;sa,0,1;");
        due.is("one SERIES", one.count(1), 1);
        due.is("no second", one.series(1, 2), BAD);
    }

    private static void letterAToZ() {
        due.part("a LETTER (a to z, a is 1, b 2, .., z 26)");
        for (char sign = 32; sign <= 126; sign++) {
            String text = "p1;s" + sign + ",0,1;";
            boolean letter = sign >= 'a' && sign <= 'z';
            faultOf(text, letter ? NONE : 3);
            if (letter) {
                due.is("LETTER " + sign, Due.laid(text).series(0, 0), sign - 'a' + 1);
            }
        }
        faultOf("p1;s,0,1;", 3);
        faultOf("p1;sab,0,1;", 3);
    }

    private static void kindZeroToTwo() {
        due.part("a KIND of CHECK (0 to 2)");
        for (int kind = 0; kind <= 99; kind++) {
            String text = "p1;sa," + kind + ",1;";
            faultOf(text, kind <= 2 ? NONE : 3);
            if (kind <= 2) {
                due.is("KIND", Due.laid(text).series(0, 1), kind);
            }
        }
        faultOf("p1;sa,-1,1;", 3);
    }

    private static void sheetsZeroToForty() {
        due.part("how many SHEETS it prints of it (0 to 40)");
        for (int sheets = 0; sheets <= 99; sheets++) {
            String text = "p2;p1;sa,0," + sheets + ",1;";
            faultOf(text, sheets <= 40 ? NONE : 6);
            faultOf("p1;p2;sa,0,1," + sheets + ";", sheets <= 40 ? NONE : 6);
            if (sheets <= 40) {
                sheetsOfAPress(Due.laid(text), sheets);
            }
        }
        faultOf("p1;p1;sa,0,1,-1;", 6);
    }

    private static void sheetsOfAPress(NotePress x, int sheets) {
        due.is("SHEETS", x.share(0, 0, 0), sheets);
        due.is("the last SHEET", x.number(0, 0, sheets - 1, 1), sheets == 0 ? BAD : 2 * sheets - 1);
        due.is("behind it", x.number(0, 0, sheets, 1), BAD);
        due.is("run of one too many", x.run(0, 0, sheets + 1), sheets == 40 ? BAD : NO);
        due.is("run of all", x.run(0, 0, sheets), sheets == 0 ? BAD : 2 * sheets);
        due.is("run of one more", x.run(0, 0, 1), NO);
    }

    private static void notesOneTo999() {
        due.part("M (1 to 999)");
        faultOf("p1;sa,0,0;", 3);
        faultOf("p1;p8;p2;p3;sa,0,0,0,0,0;", 12);
        faultOf("p8;p8;p8;p8;sa,0,40,40,40,40;", 12);
        faultOf("p8;p8;p8;p1;sa,0,40,40,40,40;", 12);
        faultOf("p8;p8;p8;p1;sb,0,40,40,40,39;sa,0,40,40,40,40;", 29);
        NotePress least = Due.laid("p8;p1;sa,0,0,1;");
        due.is("M is 1", least.series(0, 2), 1);
        due.is("NUMBER 0", least.note(0, 0), 0);
        due.is("behind it", least.note(0, 1), BAD);
        NotePress most = Due.laid(MOST);
        due.is("M is 999", most.series(0, 2), 999);
        due.is("NUMBER 998", most.note(0, 998), 0);
        due.is("behind it", most.note(0, 999), BAD);
        NotePress all = Due.laid("p8;p8;p8;p1;sa,0,40,40,40,39;sb,1,40,40,40,39;sc,2,40,40,40,39;");
        for (int s = 0; s < 3; s++) {
            for (int press = 0; press < 4; press++) {
                due.is("run", all.run(s, press, press < 3 ? 40 : 39), press < 3 ? 320 : 39);
            }
        }
        counts(all, 4, 3, 20, 0, 2997, 0, 477, 300, 6);
    }

    private static void starsZeroTo99() {
        due.part("Z 0 to 99");
        for (int stars = 0; stars <= 99; stars++) {
            NotePress x = Due.laid("p8;sa,0,40;z" + stars + ";");
            due.is("STARS", x.count(2), stars);
            due.is("the last STAR", x.star(stars - 1, 1), stars == 0 ? BAD : NONE);
            due.is("behind it", x.star(stars, 1), BAD);
            x.run(0, 0, 40);
            for (int number = 0; number < stars; number++) {
                due.is("a STAR", x.spoil(0, number), number);
            }
            due.is("one more", x.spoil(0, stars), FULL);
            due.is("STARS that stand for one", x.count(3), stars);
        }
        faultOf("z100;", 0);
    }

    private static void numbersRunOn() {
        due.part("PLACE q of SHEET j is NUMBER B and q times S and j together");
        NotePress x = Due.laid("p3;p8;p2;sa,0,7,1,5;");
        int[] first = {0, 21, 29};
        int[] sheets = {7, 1, 5};
        int[] places = {3, 8, 2};
        for (int press = 0; press < 3; press++) {
            for (int j = 0; j < sheets[press]; j++) {
                for (int q = 0; q < places[press]; q++) {
                    int number = first[press] + q * sheets[press] + j;
                    due.is("NUMBER", x.number(0, press, j, q), number);
                    due.is("PRESS of " + number, x.where(0, number, 0), press);
                    due.is("SHEET of " + number, x.where(0, number, 1), j);
                    due.is("PLACE of " + number, x.where(0, number, 2), q);
                }
            }
        }
        due.is("the last", x.number(0, 2, 4, 1), 38);
        due.is("behind it", x.where(0, 39, 0), BAD);
    }

    private static void pressesOneBehindTheOther() {
        due.part("PRESS 0 has the first ones, then 1, ..");
        NotePress x = Due.laid("p3;p8;p2;p4;sa,0,0,2,0,1;sb,0,1,0,3,0;");
        int[][] first = {{0, 0, 16, 16}, {0, 3, 3, 9}};
        for (int s = 0; s < 2; s++) {
            for (int press = 0; press < 4; press++) {
                due.is("first NUMBER of " + press, x.share(s, press, 2), first[s][press]);
            }
        }
        due.is("the first is of PRESS 1", x.where(0, 0, 0), 1);
        due.is("its last", x.where(0, 15, 0), 1);
        due.is("the next is of PRESS 3", x.where(0, 16, 0), 3);
        due.is("the last of PRESS 0", x.where(1, 2, 0), 0);
        due.is("the first of PRESS 2", x.where(1, 3, 0), 2);
        due.is("the last", x.where(1, 8, 0), 2);
        due.is("none is of PRESS 3", x.where(1, 9, 0), BAD);
    }

    private static void laidWithASeriesAtLeast() {
        due.part("LAID is a TEXT without FAULT with a SERIES at least (NO else)");
        for (String text : new String[] {"", "p1;", "z5;", "p1;p2;p3;p4;z0;", "p1;sa,0,1;;", "p1;sa,0,1;sb,0,0;"}) {
            NotePress x = Due.laid("p2;sb,1,4;z3;");
            x.run(0, 0, 1);
            x.spoil(0, 0);
            Due.rewrite(x, text);
            due.is("lay of " + text, x.lay(), NO);
            counts(x, 1, 1, 3, 1, 2, 1, 1, 0, 2, text.length());
            due.is("LETTER", x.series(0, 0), 2);
            due.is("the NOTE", x.note(0, 0), 2);
            due.is("undo", x.undo(), 1);
        }
        due.is("one SERIES", Due.told("p1;sa,0,1;").lay(), 1);
    }

    private static void laidAtFirst() {
        due.part("at first p4;p2;sa,0,10,5;sc,1,3,9;se,2,6,0;z12;");
        NotePress x = new NotePress();
        int[][] series = {{1, 0, 50, 0, 0, 15, 5, 0}, {3, 1, 30, 0, 0, 12, 3, 0}, {5, 2, 24, 0, 0, 6, 3, 0}};
        int[][][] shares = {{{10, 0, 0, 4}, {5, 0, 40, 2}}, {{3, 0, 0, 4}, {9, 0, 12, 2}}, {{6, 0, 0, 4}, {0, 0, 24, 2}}};
        for (int s = 0; s < 3; s++) {
            for (int what = 0; what < 8; what++) {
                due.is("series(" + s + ", " + what + ")", x.series(s, what), series[s][what]);
            }
            for (int press = 0; press < 2; press++) {
                for (int what = 0; what < 4; what++) {
                    due.is("share(" + s + ", " + press + ", " + what + ")", x.share(s, press, what),
                        shares[s][press][what]);
                }
            }
        }
        counts(x, 2, 3, 12, 0, 0, 0, 0, 0, 0, 0);
        due.is("a text that is empty is not laid", x.lay(), NO);
        counts(x, 2, 3, 12, 0, 0, 0, 0, 0, 0, 0);
    }

    private static void laidNothingIsPrinted() {
        due.part("nothing is printed, SPOILED");
        String text = "p2;p1;sa,0,2,2;sb,0,1,1;z9;";
        NotePress x = Due.laid(text);
        for (int times = 0; times < 3; times++) {
            x.run(0, 0, 2);
            x.run(0, 1, 1);
            x.run(1, 1, 1);
            x.spoilSheet(0, 0, 1);
            x.spoil(1, 2);
            counts(x, 2, 2, 9, 3, 6, 3, 4, 0, 5, text.length());
            due.is("laid again", x.lay(), 2);
            counts(x, 2, 2, 9, 0, 0, 0, 0, 0, 0, text.length());
            for (int number = 0; number < 6; number++) {
                due.is("not PRINTED", x.note(0, number), 0);
                due.is("no STAR", x.starOf(0, number), NONE);
            }
            due.is("stands for none", x.star(0, 0), NONE);
            due.is("nothing of PRESS 0", x.share(0, 0, 1), 0);
            due.is("nothing of PRESS 1", x.share(1, 1, 1), 0);
        }
    }

    private static void laidTheTextStays() {
        due.part("LAID, THE TEXT stays");
        NotePress x = Due.laid("p2;sb,1,4;z3;");
        due.is("its letters", x.count(9), 13);
        due.is("no FAULT", x.fault(), NONE);
        due.is("a letter behind it", x.write('x'), 14);
        due.is("FAULT", x.fault(), 13);
        due.is("what is laid is not the text", x.series(0, 2), 8);
        due.is("lay", x.lay(), NO);
        due.is("it still is", x.series(0, 2), 8);
        due.is("wipe", x.wipe(), 14);
        due.is("and still", x.series(0, 2), 8);
    }

    // ---- checks

    private static void checks() {
        figuresHundredsFirst();
        ninesZeroToEight();
        elevenZeroToTen();
        turnsZeroToNine();
        turnsLetterModuloTen();
        missedFigures();
        missedSwaps();
        missedNumberNeedNotBeOfTheSeries();
        starsHaveElevenWithoutALetter();
    }

    private static int checkOf(char letter, int kind, int number) {
        return Due.laid("p1;s" + letter + "," + kind + ",1;").check(0, number);
    }

    private static void figuresHundredsFirst() {
        due.part("three FIGURES, hundreds first (7 is 0 0 7)");
        due.is("0 0 7 of a: 5 and 14", checkOf('a', 1, 7), 3);
        due.is("0 7 0 of a: 5 and 21", checkOf('a', 1, 70), 7);
        due.is("7 0 0 of a: 5 and 28", checkOf('a', 1, 700), 0);
        due.is("1 2 3 of a: 5, 4, 6 and 6", checkOf('a', 1, 123), 1);
    }

    private static void ninesZeroToEight() {
        due.part("NINES: the number 0 to 8");
        due.is("a multiple of 9 without it is 0, not 9", checkOf('a', 0, 8), 0);
        due.is("one more is 8", checkOf('a', 0, 9), 8);
        due.is("one less is 1", checkOf('a', 0, 7), 1);
        due.is("z 0 0 1 is 27", checkOf('z', 0, 1), 0);
        due.is("z 9 9 9 is 53", checkOf('z', 0, 999), 1);
        due.is("i 0 0 0 is 9", checkOf('i', 0, 0), 0);
        due.is("a 0 0 0 is 1", checkOf('a', 0, 0), 8);
    }

    private static void elevenZeroToTen() {
        due.part("ELEVEN: the number 0 to 10");
        due.is("a 0 0 3 is 11", checkOf('a', 1, 3), 0);
        due.is("a 0 0 9 is 23", checkOf('a', 1, 9), 10);
        due.is("a 0 0 8 is 21", checkOf('a', 1, 8), 1);
        due.is("k 0 0 0 is 55", checkOf('k', 1, 0), 0);
        due.is("z 0 0 0 is 130", checkOf('z', 1, 0), 2);
        due.is("z 9 9 9 is 211", checkOf('z', 1, 999), 9);
    }

    private static void turnsZeroToNine() {
        due.part("TURNS: 0 to 9");
        // a 0 0 0: 1 and 1 make 2, 2 and 5 make 7, 7 and 8 (0 turned three times) make 4.
        due.is("a 0 0 0", checkOf('a', 2, 0), 1);
        // e 0 0 0: 5 and 1 make 9, 9 and 5 make 4, 4 and 8 make 7, which makes 0 with itself.
        due.is("e 0 0 0", checkOf('e', 2, 0), 7);
        // j 7 2 2: 0 and 0 make 0, 0 and 0 make 0, 0 and 1 make 1.
        due.is("j 7 2 2", checkOf('j', 2, 722), 4);
        // j 7 2 4: 0, 0, then 0 and 0 (4 turned three times is 0).
        due.is("j 7 2 4", checkOf('j', 2, 724), 0);
        boolean[] seen = new boolean[10];
        for (int number = 0; number < 100; number++) {
            int check = checkOf('a', 2, number);
            due.holds("a CHECK of " + number + " is " + check, check >= 0 && check <= 9);
            seen[Math.floorMod(check, 10)] = true;
        }
        for (int check = 0; check <= 9; check++) {
            due.holds(check + " is no CHECK", seen[check]);
        }
    }

    private static void turnsLetterModuloTen() {
        due.part("TURNS: R is L modulo 10 at first");
        for (int number = 0; number < 1000; number += 37) {
            due.is("a, k", checkOf('k', 2, number), checkOf('a', 2, number));
            due.is("a, u", checkOf('u', 2, number), checkOf('a', 2, number));
            due.is("j, t", checkOf('t', 2, number), checkOf('j', 2, number));
            due.is("f, z", checkOf('z', 2, number), checkOf('f', 2, number));
        }
    }

    private static void missedFigures() {
        due.part("of the 27 ways to change one FIGURE");
        NotePress nines = Due.laid("p1;sa,0,1;");
        due.is("0 0 0", nines.missed(0, 0, 0), 3);
        due.is("9 9 9", nines.missed(0, 999, 0), 3);
        due.is("9 0 1", nines.missed(0, 901, 0), 2);
        due.is("9 1 1", nines.missed(0, 911, 0), 1);
        due.is("1 9 1", nines.missed(0, 191, 0), 1);
        due.is("1 1 0", nines.missed(0, 110, 0), 1);
        due.is("1 8 1", nines.missed(0, 181, 0), 0);
        for (int kind = 1; kind <= 2; kind++) {
            NotePress x = Due.laid("p1;sa," + kind + ",1;");
            for (int number = 0; number < 1000; number += 9) {
                due.is("KIND " + kind + " misses none of " + number, x.missed(0, number, 0), 0);
            }
        }
    }

    private static void missedSwaps() {
        due.part("of the two ways to swap FIGURES side by side, the two being unlike");
        NotePress nines = Due.laid("p1;sa,0,1;");
        due.is("1 2 3", nines.missed(0, 123, 1), 2);
        due.is("1 1 2", nines.missed(0, 112, 1), 1);
        due.is("2 1 1", nines.missed(0, 211, 1), 1);
        due.is("1 2 1", nines.missed(0, 121, 1), 2);
        due.is("1 1 1", nines.missed(0, 111, 1), 0);
        due.is("0 0 0", nines.missed(0, 0, 1), 0);
        due.is("0 0 1", nines.missed(0, 1, 1), 1);
        NotePress eleven = Due.laid("p1;sa,1,1;");
        due.is("ELEVEN misses none", eleven.missed(0, 190, 1), 0);
        due.is("ELEVEN misses none", eleven.missed(0, 909, 1), 0);
    }

    private static void missedNumberNeedNotBeOfTheSeries() {
        due.part("Whether the NUMBER is of the SERIES does not matter");
        NotePress x = Due.laid("p1;sa,0,1;");
        due.is("the only NUMBER, changed to others", x.missed(0, 0, 0), 3);
        due.is("a number that is none of it", x.missed(0, 1, 1), 1);
        due.is("the last number", x.missed(0, 999, 0), 3);
        due.is("behind it", x.missed(0, 1000, 0), BAD);
        due.is("CHECK of a number that is none of it", x.check(0, 999), 8);
        due.is("CHECK behind the last", x.check(0, 1000), BAD);
    }

    private static void starsHaveElevenWithoutALetter() {
        due.part("A STAR has the CHECK ELEVEN of its NUMBER with L 0");
        NotePress x = Due.laid("p1;sz,0,1;z99;");
        due.is("0", x.star(0, 2), 0);
        due.is("1: 2", x.star(1, 2), 9);
        due.is("6: 12", x.star(6, 2), 10);
        due.is("10: 3", x.star(10, 2), 8);
        due.is("14: 11", x.star(14, 2), 0);
        due.is("98: 43", x.star(98, 2), 1);
        due.is("judged by it", x.judge(0, 6, 10), 4);
        due.is("judged by another", x.judge(0, 6, 9), 3);
    }

    // ---- printed and spoiled

    private static void printed() {
        runFromZeroOn();
        runIsOfOnePressAndSeries();
        lowestStarThatStandsForNone();
        sheetPlaceZeroFirst();
        sheetOnlyNotesThatAreNotYet();
    }

    private static void notesAre(NotePress x, int s, int... want) {
        for (int number = 0; number < want.length; number++) {
            due.is("note(" + s + ", " + number + ")", x.note(s, number), want[number]);
        }
    }

    private static void runFromZeroOn() {
        due.part("a PRESS prints the next n SHEETS of a SERIES (from 0 on)");
        NotePress x = Due.laid("p2;sa,0,4;");
        x.run(0, 0, 1);
        notesAre(x, 0, 1, 0, 0, 0, 1, 0, 0, 0);
        x.run(0, 0, 2);
        notesAre(x, 0, 1, 1, 1, 0, 1, 1, 1, 0);
        due.is("two more than one", x.run(0, 0, 2), NO);
        notesAre(x, 0, 1, 1, 1, 0, 1, 1, 1, 0);
        due.is("the last one", x.run(0, 0, 1), 2);
        notesAre(x, 0, 1, 1, 1, 1, 1, 1, 1, 1);
        x.undo();
        notesAre(x, 0, 1, 1, 1, 0, 1, 1, 1, 0);
        x.undo();
        notesAre(x, 0, 1, 0, 0, 0, 1, 0, 0, 0);
    }

    private static void runIsOfOnePressAndSeries() {
        due.part("RUN: of one PRESS and SERIES");
        NotePress x = Due.laid("p1;p2;sa,0,2,1;sb,0,2,1;");
        x.run(0, 1, 1);
        notesAre(x, 0, 0, 0, 1, 1, BAD);
        notesAre(x, 1, 0, 0, 0, 0, BAD);
        x.run(1, 0, 1);
        notesAre(x, 0, 0, 0, 1, 1, BAD);
        notesAre(x, 1, 1, 0, 0, 0, BAD);
        due.is("left of 0", x.series(0, 5), 2);
        due.is("left of 1", x.series(1, 5), 2);
    }

    private static void lowestStarThatStandsForNone() {
        due.part("the lowest STAR that stands for none stands for it");
        NotePress x = Due.laid("p4;sa,0,3;sb,0,3;z7;");
        x.run(0, 0, 3);
        x.run(1, 0, 3);
        due.is("the first", x.spoil(0, 11), 0);
        due.is("four more", x.spoilSheet(1, 0, 0), 4);
        due.is("the next", x.spoil(0, 0), 5);
        x.undo();
        x.undo();
        due.is("four are free again", x.spoil(1, 11), 1);
        due.is("the first stands", x.starOf(0, 11), 0);
        due.is("the sheet again", x.spoilSheet(1, 0, 0), 4);
        for (int place = 0; place < 4; place++) {
            due.is("behind it", x.starOf(1, 3 * place), 2 + place);
        }
        due.is("the last", x.spoil(0, 1), 6);
        due.is("no more", x.spoil(0, 2), FULL);
    }

    private static void sheetPlaceZeroFirst() {
        due.part("A SHEET is SPOILED: PLACE 0 first");
        NotePress x = Due.laid("p8;p3;sa,0,2,3;");
        x.run(0, 1, 3);
        due.is("a SHEET of PRESS 1", x.spoilSheet(0, 1, 2), 3);
        for (int place = 0; place < 3; place++) {
            int number = 16 + 3 * place + 2;
            due.is("STAR of PLACE " + place, x.starOf(0, number), place);
            due.is("NUMBER of STAR " + place, x.star(place, 1), number);
        }
        notesAre(x, 0, 0, 0, 0, 0, 0, 0, 0, 0, 0, 0, 0, 0, 0, 0, 0, 0, 1, 1, 2, 1, 1, 2, 1, 1, 2, BAD);
    }

    private static void sheetOnlyNotesThatAreNotYet() {
        due.part("each NOTE of it that is not yet");
        NotePress x = Due.laid("p3;sa,0,2;z4;");
        x.run(0, 0, 2);
        x.spoil(0, 2);
        due.is("the two others", x.spoilSheet(0, 0, 0), 2);
        due.is("PLACE 0", x.starOf(0, 0), 1);
        due.is("PLACE 1 keeps its STAR", x.starOf(0, 2), 0);
        due.is("PLACE 2", x.starOf(0, 4), 2);
        due.is("undone, the first stays", x.undo(), 2);
        notesAre(x, 0, 1, 1, 2, 1, 1, 1);
        x.spoil(0, 0);
        x.spoil(0, 4);
        due.is("all of it are SPOILED", x.spoilSheet(0, 0, 0), NO);
        due.is("one STAR for three", x.spoilSheet(0, 0, 1), FULL);
        notesAre(x, 0, 2, 1, 2, 1, 2, 1);
    }

    // ---- judged

    /** The CHECK of b 0 0 0 by ELEVEN is 1, as 10 and 1 are 11. */
    private static void judged() {
        due.part("JUDGED: the first of these that is so");
        NotePress x = Due.laid("p2;sb,1,2;z1;");
        due.is("1, ahead of 2 and 3", x.judge(1, 999, 99), 1);
        due.is("1, right but for the LETTER", x.judge(3, 0, 1), 1);
        due.is("2, ahead of 3", x.judge(2, 4, 99), 2);
        due.is("2, right but for the NUMBER", x.judge(2, 4, x.check(0, 4)), 2);
        due.is("3, ahead of 4", x.judge(2, 0, 2), 3);
        due.is("4", x.judge(2, 0, 1), 4);
        x.run(0, 0, 1);
        due.is("0", x.judge(2, 0, 1), 0);
        due.is("0 of the other PLACE", x.judge(2, 2, x.check(0, 2)), 0);
        due.is("4 of the other SHEET", x.judge(2, 1, x.check(0, 1)), 4);
        x.spoil(0, 0);
        due.is("3, ahead of 5", x.judge(2, 0, 2), 3);
        due.is("5", x.judge(2, 0, 1), 5);
        due.is("its STAR", x.judge(0, 0, 0), 0);
        due.is("its STAR, 3", x.judge(0, 0, 1), 3);
        due.is("2 of a STAR, ahead of 3", x.judge(0, 1, 99), 2);
        due.is("2 of a STAR, the CHECK is right", x.judge(0, 1, 9), 2);
        x.undo();
        due.is("undone: 0", x.judge(2, 0, 1), 0);
        due.is("undone: the STAR stands for none", x.judge(0, 0, 0), 4);
        due.is("3 of a STAR, ahead of 4", x.judge(0, 0, 1), 3);
        x.undo();
        due.is("undone: not PRINTED", x.judge(2, 0, 1), 4);
        NotePress none = Due.laid("p1;sa,0,1;z0;");
        due.is("no STAR at all", none.judge(0, 0, 0), 2);
        judgedBounds(x);
    }

    private static void judgedBounds(NotePress x) {
        due.part("JUDGED: LETTER 0 to 26, NUMBER 0 to 999, CHECK 0 to 99");
        due.is("LETTER 26", x.judge(26, 0, 0), 1);
        due.is("LETTER 27", x.judge(27, 0, 0), BAD);
        due.is("LETTER 0", x.judge(0, 0, 0), 4);
        due.is("LETTER -1", x.judge(-1, 0, 0), BAD);
        due.is("NUMBER 999", x.judge(2, 999, 0), 2);
        due.is("NUMBER 1000", x.judge(2, 1000, 0), BAD);
        due.is("NUMBER 1000 of no SERIES", x.judge(1, 1000, 0), BAD);
        due.is("NUMBER 1000 of a STAR", x.judge(0, 1000, 0), BAD);
        due.is("NUMBER 999 of a STAR", x.judge(0, 999, 0), 2);
        due.is("NUMBER -1", x.judge(2, -1, 0), BAD);
        due.is("CHECK 99", x.judge(2, 0, 99), 3);
        due.is("CHECK 100", x.judge(2, 0, 100), BAD);
        due.is("CHECK 100 of no SERIES", x.judge(1, 0, 100), BAD);
        due.is("CHECK -1", x.judge(2, 0, -1), BAD);
        NotePress ten = Due.laid("p1;sa,1,10;");
        due.is("CHECK 10 is one of ELEVEN", ten.judge(1, 9, 10), 4);
        NotePress last = Due.laid(MOST);
        due.is("the last NUMBER", last.judge(1, 998, last.check(0, 998)), 4);
        due.is("behind it", last.judge(1, 999, last.check(0, 999)), 2);
        due.is("the last STAR", last.judge(0, 98, 1), 4);
        due.is("behind it", last.judge(0, 99, last.check(0, 99)), 2);
    }

    // ---- packs

    private static void packs() {
        lastPackMayHaveFewer();
        wholeIfAllArePrinted();
        starsInThePlaceOfSpoiled();
    }

    private static void lastPackMayHaveFewer() {
        due.part("PACKS: NUMBERS 0 to 9, 10 to 19, .. (the last one may have fewer)");
        for (int m = 1; m <= 40; m++) {
            NotePress x = Due.laid("p1;sa,0," + m + ";");
            int packs = m / 10 + (m % 10 == 0 ? 0 : 1);
            due.is("PACKS of " + m, x.series(0, 6), packs);
            due.is("no PACK behind them", x.pack(0, packs, 0), BAD);
            due.is("the last is not WHOLE", x.pack(0, packs - 1, 0), NO);
            due.is("not WHOLE ahead of fewer", x.pack(0, packs - 1, 9), NO);
            x.run(0, 0, m);
            due.is("WHOLE", x.series(0, 7), packs);
            for (int i = 0; i < 10; i++) {
                int number = 10 * (packs - 1) + i;
                due.is("place " + i + " of the last of " + m, x.pack(0, packs - 1, i), number < m ? number : NONE);
            }
            due.is("place 10", x.pack(0, packs - 1, 10), BAD);
        }
    }

    private static void wholeIfAllArePrinted() {
        due.part("A PACK is WHOLE, if all its NUMBERS are PRINTED");
        NotePress x = Due.laid("p1;sa,0,21;");
        for (int run = 1; run <= 21; run++) {
            x.run(0, 0, 1);
            due.is("WHOLE of " + run, x.series(0, 7), run == 21 ? 3 : run / 10);
            due.is("all WHOLE of " + run, x.count(7), run == 21 ? 3 : run / 10);
            due.is("PACK 0 of " + run, x.pack(0, 0, 0), run < 10 ? NO : 0);
            due.is("PACK 1 of " + run, x.pack(0, 1, 9), run < 20 ? NO : 19);
            due.is("PACK 2 of " + run, x.pack(0, 2, 0), run < 21 ? NO : 20);
        }
        NotePress first = Due.laid("p1;p1;sa,0,1,9;");
        first.run(0, 1, 9);
        due.is("the first is not PRINTED", first.pack(0, 0, 9), NO);
        first.run(0, 0, 1);
        due.is("it is", first.pack(0, 0, 9), 9);
        first.spoil(0, 0);
        due.is("SPOILED, it still is WHOLE", first.series(0, 7), 1);
        first.undo();
        first.undo();
        due.is("undone, it is not", first.series(0, 7), 0);
    }

    private static void starsInThePlaceOfSpoiled() {
        due.part("in place of a SPOILED one its STAR");
        NotePress x = Due.laid("p8;sa,0,13;sb,0,13;z99;");
        x.run(0, 0, 13);
        x.run(1, 0, 13);
        for (int number = 0; number < 98; number++) {
            x.spoil(0, number);
        }
        x.spoil(1, 103);
        due.is("STAR 0", x.pack(0, 0, 0), STAR);
        due.is("STAR 9", x.pack(0, 0, 9), STAR + 9);
        due.is("STAR 97", x.pack(0, 9, 7), STAR + 97);
        due.is("not SPOILED", x.pack(0, 9, 8), 98);
        due.is("the last STAR", x.pack(1, 10, 3), STAR + 98);
        due.is("behind it", x.pack(1, 10, 4), NONE);
        due.is("the same NUMBER of the other", x.pack(0, 10, 3), 103);
        due.is("no STAR is left", x.spoil(1, 0), FULL);
        due.is("it is in its place", x.pack(1, 0, 0), 0);
    }

    // ---- undone

    private static void undone() {
        lastSixCanBe();
        sixOfEachKind();
        behindLaidNone();
        changesOnly();
        oneChangeForASheet();
    }

    private static void lastSixCanBe() {
        due.part("the last 6 can be");
        for (int changes = 0; changes <= 9; changes++) {
            NotePress x = Due.laid("p1;sa,0,40;");
            for (int i = 0; i < changes; i++) {
                x.run(0, 0, 1 + i % 3);
            }
            int can = Math.min(changes, 6);
            due.is("of " + changes, x.count(8), can);
            for (int more = can - 1; more >= 0; more--) {
                due.is("undo", x.undo(), more);
                due.is("changes left", x.count(8), more);
            }
            due.is("no more", x.undo(), NO);
            int stay = 0;
            for (int i = 0; i < changes - can; i++) {
                stay += 1 + i % 3;
            }
            due.is("SHEETS that stay", x.count(6), stay);
        }
        droppedForGood();
    }

    private static void droppedForGood() {
        NotePress x = Due.laid("p1;sa,0,40;");
        for (int i = 0; i < 7; i++) {
            x.run(0, 0, 1);
        }
        x.undo();
        x.undo();
        due.is("four can be", x.count(8), 4);
        x.run(0, 0, 1);
        due.is("five can be", x.count(8), 5);
        for (int more = 4; more >= 0; more--) {
            due.is("undo", x.undo(), more);
        }
        due.is("the first cannot", x.undo(), NO);
        due.is("its SHEET stays", x.count(6), 1);
    }

    private static void sixOfEachKind() {
        due.part("UNDONE is the latest change");
        NotePress x = Due.laid("p2;p1;sa,0,4,4;sb,0,4,4;z9;");
        x.run(0, 0, 4);
        x.run(1, 1, 2);
        x.spoil(0, 7);
        x.run(1, 1, 1);
        x.spoilSheet(0, 0, 2);
        x.spoil(1, 10);
        x.run(0, 1, 3);
        counts(x, 2, 2, 9, 4, 14, 4, 10, 1, 6);
        int[][] want = {{4, 11, 4, 7}, {3, 11, 3, 7}, {1, 11, 1, 7}, {1, 10, 1, 6}, {0, 10, 0, 6}, {0, 8, 0, 4}};
        for (int i = 0; i < 6; i++) {
            due.is("undo", x.undo(), 5 - i);
            for (int what = 3; what <= 6; what++) {
                due.is("count(" + what + ") behind undo " + i, x.count(what), want[i][what - 3]);
            }
        }
        due.is("the oldest", x.undo(), NO);
        due.is("stays", x.share(0, 0, 1), 4);
    }

    private static void behindLaidNone() {
        due.part("behind LAID none can be");
        NotePress x = new NotePress();
        x.run(0, 0, 1);
        x.run(0, 0, 1);
        Due.rewrite(x, "p1;sa,0,4;x");
        due.is("not laid", x.lay(), NO);
        due.is("both can be", x.undo(), 1);
        Due.rewrite(x, "p1;sa,0,4;");
        due.is("laid", x.lay(), 1);
        due.is("none", x.count(8), 0);
        due.is("none", x.undo(), NO);
        due.is("not laid twice", x.series(0, 2), 4);
        x.run(0, 0, 3);
        due.is("the change behind it", x.undo(), 0);
        due.is("no more", x.undo(), NO);
        due.is("nothing is RUN", x.count(6), 0);
    }

    private static void changesOnly() {
        due.part("A change: SHEETS RUN, a NOTE or a SHEET SPOILED");
        NotePress x = new NotePress();
        x.run(0, 0, 2);
        x.write('p');
        x.fault();
        x.wipe();
        x.lay();
        x.judge(1, 0, 8);
        x.pack(0, 0, 0);
        due.is("told and asked, no change", x.count(8), 1);
        x.spoil(0, 0);
        x.spoilSheet(0, 0, 1);
        due.is("three", x.count(8), 3);
        x.undo();
        due.is("undone is no change", x.count(8), 2);
    }

    private static void oneChangeForASheet() {
        due.part("a SHEET SPOILED is one change");
        NotePress x = Due.laid("p8;sa,0,2;");
        x.run(0, 0, 2);
        x.spoil(0, 6);
        x.spoilSheet(0, 0, 0);
        due.is("three", x.count(8), 3);
        due.is("eight", x.count(5), 8);
        due.is("undo", x.undo(), 2);
        due.is("one is left", x.count(5), 1);
        due.is("the one of before", x.note(0, 6), 2);
        due.is("its STAR", x.starOf(0, 6), 0);
    }

    // ---- which answer comes first

    private static void order() {
        due.part("BAD, NO, NONE, FULL: of several the first in this order");
        NotePress full = Due.told("z".repeat(200));
        due.is("write: BAD ahead of FULL", full.write(127), BAD);
        due.is("write: FULL", full.write(126), FULL);
        NotePress x = Due.laid("p2;p1;sa,0,2,0;sb,0,1,12;z1;");
        due.is("run: BAD (n) ahead of NO", x.run(0, 1, 41), BAD);
        due.is("run: BAD (0) ahead of NO", x.run(0, 1, 0), BAD);
        due.is("run: NO", x.run(0, 1, 40), NO);
        due.is("spoil: BAD ahead of NO", x.spoil(0, 4), BAD);
        due.is("spoilSheet: BAD ahead of NO", x.spoilSheet(0, 1, 0), BAD);
        due.is("pack: BAD ahead of NO", x.pack(0, 0, 10), BAD);
        due.is("pack: BAD ahead of NO", x.pack(0, 1, 0), BAD);
        due.is("pack: NO ahead of NONE", x.pack(0, 0, 9), NO);
        due.is("starOf: BAD ahead of NONE", x.starOf(0, 4), BAD);
        due.is("star: BAD (what) ahead of NONE", x.star(0, 3), BAD);
        due.is("star: BAD (STAR) ahead of NONE", x.star(1, 0), BAD);
        x.run(0, 0, 1);
        x.spoil(0, 0);
        due.is("spoil: NO (SPOILED) ahead of FULL", x.spoil(0, 0), NO);
        due.is("spoil: NO (not PRINTED) ahead of FULL", x.spoil(0, 1), NO);
        due.is("spoil: BAD ahead of FULL", x.spoil(0, 4), BAD);
        due.is("spoil: FULL", x.spoil(0, 2), FULL);
        due.is("spoilSheet: NO (not PRINTED) ahead of FULL", x.spoilSheet(0, 0, 1), NO);
        due.is("spoilSheet: BAD ahead of FULL", x.spoilSheet(0, 0, 2), BAD);
        due.is("spoilSheet: FULL", x.spoilSheet(0, 0, 0), FULL);
        NotePress spoiled = Due.laid("p2;sa,0,1;z2;");
        spoiled.run(0, 0, 1);
        spoiled.spoilSheet(0, 0, 0);
        due.is("spoilSheet: NO (all are) ahead of FULL", spoiled.spoilSheet(0, 0, 0), NO);
    }
}
