import java.util.ArrayList;
import java.util.List;

/** Every answer by which two objects could tell that they are not in the same state; it changes the object. */
final class Probe {
    private final GlassBooths x;
    private final List<String> answers = new ArrayList<>();

    private Probe(GlassBooths x) {
        this.x = x;
    }

    static List<String> of(GlassBooths x) {
        Probe probe = new Probe(x);
        probe.counts();
        probe.teams();
        probe.day();
        probe.limitAndIll();
        probe.eachPersonAlone();
        probe.silences();
        return probe.answers;
    }

    private void add(String call, int answer) {
        answers.add(call + " = " + answer);
    }

    private void counts() {
        for (int what = 0; what < 5; what++) {
            add("count(" + what + ")", x.count(what));
        }
        for (int person = 0; person < 6; person++) {
            add("booth(" + person + ")", x.booth(person));
        }
    }

    private void teams() {
        for (int session = 0; session < 2; session++) {
            add("whole(" + session + ")", x.whole(session));
            add("cheapest(" + session + ")", x.cheapest(session));
            add("nearest(" + session + ")", x.nearest(session));
            add("lacking(" + session + ")", x.lacking(session));
            for (int person = 0; person < 6; person++) {
                add("needed(" + person + ", " + session + ")", x.needed(person, session));
            }
        }
    }

    private void day() {
        for (int tongue = 0; tongue < 5; tongue++) {
            add("late(" + tongue + ")", x.late(tongue));
            for (int half = 0; half < 16; half++) {
                add("heard(" + tongue + ", " + half + ")", x.heard(tongue, half));
            }
        }
        for (int person = 0; person < 6; person++) {
            for (int half = 0; half < 16; half++) {
                add("tired(" + person + ", " + half + ")", x.tired(person, half));
            }
        }
        for (int tongue = 0; tongue < 5; tongue++) {
            add("on(" + tongue + ", 15)", x.on(tongue, 15));
        }
        add("worn()", x.worn());
    }

    private void limitAndIll() {
        add("limit(20)", x.limit(20));
        for (int person = 0; person < 6; person++) {
            add("ill(" + person + ", true)", x.ill(person, true));
        }
    }

    /** With all others ill, pay, what is spoken and what is known show one by one. */
    private void eachPersonAlone() {
        x.seats(1);
        for (int person = 0; person < 6; person++) {
            x.ill(person, false);
            x.session(0, 0, 31);
            add("lacking with " + person + " alone", x.lacking(0));
            int speaks = 31 & ~x.lacking(0);
            x.session(0, 0, Integer.lowestOneBit(speaks));
            add("cheapest with " + person + " alone", x.cheapest(0));
            for (int tongue = 0; tongue < 5; tongue++) {
                x.session(0, 1 << tongue, Integer.lowestOneBit(speaks));
                add(person + " knows " + tongue, x.whole(0));
            }
            x.ill(person, true);
        }
    }

    private void silences() {
        for (int half = 0; half < 16; half++) {
            add("silence(" + half + ")", x.silence(half));
        }
        add("person(31, 31, 1)", x.person(31, 31, 1));
        add("leave()", x.leave());
    }
}
