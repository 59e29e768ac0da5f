import java.util.ArrayList;
import java.util.List;

/** All that can be asked of an object but status(), one answer a line; the object is used up by it. */
final class Seen {
    /** An object answers 512 calls; the pasts that are looked at this way, and the text fed here, take fewer than 112. */
    private static final int MOST_CALLS = 400;
    private static final int MOST_LATE = 60;

    private final EvePost x;
    private final List<String> lines = new ArrayList<>();

    private Seen(EvePost x) {
        this.x = x;
    }

    static List<String> allOf(EvePost x) {
        Seen seen = new Seen(x);
        seen.counts();
        seen.trace();
        seen.people();
        seen.acts();
        seen.images();
        seen.tape();
        seen.rows();
        return seen.within(MOST_CALLS);
    }

    /** What a few calls show. */
    static List<String> fewOf(EvePost x) {
        Seen seen = new Seen(x);
        seen.counts();
        seen.people();
        for (int k = 0; k < 3; k++) {
            seen.say("undo()", x.undo());
            seen.counts();
        }
        return seen.within(MOST_LATE);
    }

    /** What a row has, by a town in which every letter agrees and is done: '1 2 3', 'x' for what is no letter. */
    static String items(EvePost x, int row) {
        StringBuilder all = new StringBuilder();
        for (int i = 0; i < 41; i++) {
            int posted = x.posts(row, i, 1);
            if (posted == Due.PLACE || posted == Due.NULL) {
                break;
            }
            all.append(i == 0 ? "" : " ").append(posted == 1 ? Integer.toString(x.count(3)) : "x");
        }
        return all.toString();
    }

    private List<String> within(int most) {
        if (lines.size() > most) {
            throw new IllegalStateException("more calls than an object answers: " + lines.size());
        }
        return lines;
    }

    private int say(String call, int answer) {
        lines.add(call + " is " + answer);
        return answer;
    }

    private void counts() {
        for (int what = 0; what < 6; what++) {
            say("count(" + what + ")", x.count(what));
        }
        say("fault()", x.fault());
    }

    private void trace() {
        for (int i = 0; i < 17; i++) {
            say("trace(" + i + ")", x.trace(i));
        }
    }

    private void people() {
        int people = say("count(1)", x.count(1));
        for (int person = 0; person < people; person++) {
            say("kind(" + person + ")", x.kind(person));
            for (int what = 0; what < 3; what++) {
                say("person(" + person + ", " + what + ")", x.person(person, what));
            }
        }
        for (int letter = 0; people > 0 && letter < 1 << people; letter++) {
            say("done(" + letter + ")", x.done(letter));
        }
    }

    private void acts() {
        for (int k = 0; k < 25 && say("undo()", x.undo()) >= 0; k++) {
            say("count(2)", x.count(2));
            say("count(3)", x.count(3));
        }
    }

    private void images() {
        for (int k = 0; k < 2; k++) {
            say("restore(" + k + ")", x.restore(k));
            say("count(2)", x.count(2));
            people();
        }
    }

    /** The tape holds the first part of a person; its sign makes it whole. */
    private void tape() {
        say("feed(';', 1)", x.feed(';', 1));
        say("town()", x.town());
        say("fault()", x.fault());
        people();
    }

    private void rows() {
        say("town()", Due.town(x, Due.text(Pasts.SIX)));
        for (int row = 0; row < 8; row++) {
            int i = 0;
            while (say("posts(" + row + ", " + i + ", 1)", x.posts(row, i, 1)) >= Due.BAD && i < 40) {
                say("count(3)", x.count(3));
                i++;
            }
            say("set(" + row + ", 0, 70000)", x.set(row, 0, 70000));
            say("drop(" + row + ")", x.drop(row));
        }
    }
}
