/** Compares answers with what is due and keeps the number of wrong ones. */
final class Due {
    private int wrong;
    private String part = "";

    void part(String name) {
        part = name;
    }

    void is(String call, int got, int want) {
        if (got != want) {
            wrong++;
            System.out.println(part + ": " + call + " answered " + got + ", due is " + want);
        }
    }

    void holds(String claim, boolean so) {
        if (!so) {
            wrong++;
            System.out.println(part + ": " + claim);
        }
    }

    int wrong() {
        return wrong;
    }

    /** Ends the test with exit code 1 if an answer was wrong. */
    void end() {
        System.out.println(wrong == 0 ? "all answers are as due" : wrong + " answers are not as due");
        if (wrong != 0) {
            System.exit(1);
        }
    }

    /** A new object with this text written, not laid. */
    static NotePress told(String text) {
        NotePress x = new NotePress();
        rewrite(x, text);
        return x;
    }

    /** A new object with this text laid; an error if it can't be. */
    static NotePress laid(String text) {
        NotePress x = told(text);
        if (x.lay() < 1) {
            throw new IllegalStateException("not laid: " + text);
        }
        return x;
    }

    static void rewrite(NotePress x, String text) {
        x.wipe();
        for (int i = 0; i < text.length(); i++) {
            x.write(text.charAt(i));
        }
    }
}
