import java.util.ArrayList;
import java.util.List;

/**
 * Whether a call changed nothing: two objects get the same calls, one of them the call in question behind them; then
 * both are asked all that can be asked, and are used further. As an object is used for 512 calls at most, every part of
 * the questions has a new pair.
 */
final class Twins {
    private static final int QUESTIONS_OF_A_PAIR = 200;

    /** Calls that bring a new object to where the call in question is made; 250 at most. */
    interface Story {
        void tell(NotePress x);
    }

    /** One call. */
    interface Call {
        int on(NotePress x);
    }

    /** A question, or several calls that go on from there, with all their answers. */
    private interface Look {
        String at(NotePress x);
    }

    private final Due due;
    private final String name;
    private final Story story;
    private final List<Look> questions = new ArrayList<>();
    private final List<Look> goingOn = new ArrayList<>();

    Twins(Due due, String name, Story story) {
        this.due = due;
        this.name = name;
        this.story = story;
        askCounts();
        for (int s = -1; s <= told().count(1); s++) {
            askSeries(s);
            askNotes(s);
        }
        askStars();
        goOn();
    }

    private NotePress told() {
        NotePress x = new NotePress();
        story.tell(x);
        return x;
    }

    /** The call is answered as it is due, and nothing changes. */
    void unchanged(String call, int want, Call made) {
        NotePress once = told();
        due.is(name + ": " + call, made.on(once), want);
        due.is(name + ": " + call + " once more", made.on(once), want);
        for (int from = 0; from < questions.size(); from += QUESTIONS_OF_A_PAIR) {
            int to = Math.min(from + QUESTIONS_OF_A_PAIR, questions.size());
            compare(call, made, questions.subList(from, to));
        }
        for (Look look : goingOn) {
            compare(call, made, List.of(look));
        }
    }

    private void compare(String call, Call made, List<Look> looks) {
        NotePress with = told();
        NotePress without = told();
        made.on(with);
        for (Look look : looks) {
            String got = look.at(with);
            String want = look.at(without);
            due.holds(name + ": behind " + call + " " + got + ", due is " + want, got.equals(want));
        }
    }

    private void ask(String call, Call question) {
        questions.add(x -> call + " answers " + question.on(x));
    }

    private void askCounts() {
        for (int i = 0; i < 10; i++) {
            int what = i;
            ask("count(" + what + ")", x -> x.count(what));
        }
        ask("fault()", NotePress::fault);
    }

    private void askSeries(int s) {
        for (int i = 0; i < 8; i++) {
            int what = i;
            ask("series(" + s + ", " + what + ")", x -> x.series(s, what));
        }
        for (int p = 0; p <= told().count(0); p++) {
            int press = p;
            for (int i = 0; i < 4; i++) {
                int what = i;
                ask("share(" + s + ", " + press + ", " + what + ")", x -> x.share(s, press, what));
            }
            ask("number(" + s + ", " + press + ", 0, 0)", x -> x.number(s, press, 0, 0));
        }
    }

    private void askNotes(int s) {
        for (int n = 0; n <= told().series(s, 2); n++) {
            int number = n;
            ask("note(" + s + ", " + number + ")", x -> x.note(s, number));
            ask("starOf(" + s + ", " + number + ")", x -> x.starOf(s, number));
            ask("where(" + s + ", " + number + ", 0)", x -> x.where(s, number, 0));
            ask("pack(" + s + ", " + number / 10 + ", " + number % 10 + ")", x -> x.pack(s, number / 10, number % 10));
            int letter = Math.max(told().series(s, 0), 0);
            int check = Math.max(told().check(s, number), 0);
            ask("judge(" + letter + ", " + number + ", " + check + ")", x -> x.judge(letter, number, check));
        }
    }

    private void askStars() {
        for (int i = 0; i <= told().count(2); i++) {
            int k = i;
            for (int j = 0; j < 3; j++) {
                int what = j;
                ask("star(" + k + ", " + what + ")", x -> x.star(k, what));
            }
        }
    }

    private void goOn() {
        goingOn.add(Twins::undoAll);
        goingOn.add(Twins::spoilOn);
        goingOn.add(Twins::runOn);
        goingOn.add(x -> "lay() answers " + x.lay() + undoAll(x));
        goingOn.add(x -> "write, fault, wipe answer " + x.write('p') + " " + x.fault() + " " + x.wipe());
    }

    private static String state(NotePress x) {
        StringBuilder state = new StringBuilder("(");
        for (int what = 0; what < 10; what++) {
            state.append(x.count(what)).append(' ');
        }
        for (int s = 0; s < x.count(1); s++) {
            for (int press = 0; press < x.count(0); press++) {
                state.append(x.share(s, press, 1)).append(' ');
            }
        }
        return state.append(")").toString();
    }

    private static String undoAll(NotePress x) {
        StringBuilder answers = new StringBuilder("undo() answers");
        for (int i = 0; i < 7; i++) {
            answers.append(' ').append(x.undo()).append(state(x));
        }
        return answers.toString();
    }

    private static String spoilOn(NotePress x) {
        StringBuilder answers = new StringBuilder("spoil and spoilSheet answer");
        for (int s = 0; s < x.count(1); s++) {
            for (int number = 0; number < 8; number++) {
                answers.append(' ').append(x.spoil(s, number));
            }
            for (int press = 0; press < x.count(0); press++) {
                answers.append(' ').append(x.spoilSheet(s, press, 0));
            }
        }
        return answers.append(state(x)).append(undoAll(x)).toString();
    }

    private static String runOn(NotePress x) {
        StringBuilder answers = new StringBuilder("run answers");
        for (int s = 0; s < x.count(1); s++) {
            for (int press = 0; press < x.count(0); press++) {
                answers.append(' ').append(x.run(s, press, 1));
            }
        }
        return answers.append(state(x)).append(undoAll(x)).toString();
    }
}
