import java.util.ArrayList;
import java.util.List;

/** All that looking shows of an object, call by call, within the calls that the document grants it. */
final class Picture {
    private final List<String> calls = new ArrayList<>();
    private final List<Long> answers = new ArrayList<>();

    private Picture() {
    }

    static Picture of(GooseLetters x) {
        Picture p = new Picture();
        for (int what = -1; what <= 26; what++) {
            p.add("about(" + what + ")", x.about(what));
        }
        p.add("fault(0)", x.fault(0));
        p.add("fault(1)", x.fault(1));
        p.add("holds()", x.holds());
        for (int goose = 0; goose < x.about(1); goose++) {
            p.addGoose(x, goose);
        }
        for (int letter = 0; letter < 6; letter++) {
            p.addLetter(x, letter);
        }
        return p;
    }

    private void addGoose(GooseLetters x, int goose) {
        for (int what = 0; what < 10; what++) {
            add("of(" + goose + ", " + what + ")", x.of(goose, what));
        }
        add("plucks(" + goose + ")", x.plucks(goose));
        add("ink(" + goose + ", 1, 2)", x.ink(goose, 1, 2));
        add("plan(0, 60, " + goose + ")", x.plan(0, 60, goose));
    }

    private void addLetter(GooseLetters x, int letter) {
        add("known(" + letter + ", 1)", x.known(letter, 1));
        add("known(" + letter + ", 999)", x.known(letter, 999));
        add("led(" + letter + ", false)", x.led(letter, false));
        add("led(" + letter + ", true)", x.led(letter, true));
        add("answer(" + letter + ")", x.answer(letter));
        add("plan(" + letter + ", 30, -1)", x.plan(letter, 30, -1));
        for (int who = 0; who < 3; who++) {
            add("odds(" + letter + ", " + who + ", false)", x.odds(letter, who, false));
            add("odds(" + letter + ", " + who + ", true)", x.odds(letter, who, true));
        }
    }

    private void add(String call, long answer) {
        calls.add(call);
        answers.add(answer);
    }

    /** Every call that does not show what the other picture shows counts as wrong. */
    void dueAs(String what, Picture other) {
        Check.due(what + ": calls", answers.size(), other.answers.size());
        for (int i = 0; i < Math.min(answers.size(), other.answers.size()); i++) {
            Check.due(what + ": " + calls.get(i), answers.get(i), other.answers.get(i));
        }
    }
}
