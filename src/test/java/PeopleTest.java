/** Promises 1 to 5: a new object, person, ill, session, seats. */
public final class PeopleTest {
    private static final int NONE = -1, UNKNOWN = -2, OUTSIDE = -3, NOT = -4, FULL = -5;
    private static final Due due = new Due("PeopleTest");

    public static void main(String[] args) {
        newObject();
        objectsAreApart();
        personNumbers();
        personOutside();
        personFull();
        personIsInNoBooth();
        illAnswersWhatWas();
        illUnknown();
        illLeavesTheTeam();
        sessionSets();
        sessionRefusals();
        seatsAnswersWhatWas();
        seatsOutside();
        due.end();
    }

    private static void newObject() {
        GlassBooths x = new GlassBooths();
        due.is("1 count(0)", x.count(0), 0);
        due.is("1 count(1)", x.count(1), 0);
        due.is("1 count(2)", x.count(2), 0);
        due.is("1 count(3)", x.count(3), 0);
        due.is("1 count(4)", x.count(4), 1);
        for (int session = 0; session < 2; session++) {
            due.is("1 whole", x.whole(session), 1);
            due.is("1 cheapest", x.cheapest(session), 0);
            due.is("1 nearest", x.nearest(session), 0);
            due.is("1 lacking", x.lacking(session), 0);
            due.is("1 needed", x.needed(0, session), UNKNOWN);
        }
        for (int half = 0; half < 16; half++) {
            for (int tongue = 0; tongue < 5; tongue++) {
                due.is("1 on", x.on(tongue, half), NONE);
                due.is("1 heard", x.heard(tongue, half), NONE);
            }
            due.is("1 silence", x.silence(half), 0);
        }
        due.is("1 leave", x.leave(), 0);
        due.is("1 worn", x.worn(), 0);
        due.is("1 limit", x.limit(20), 20);
    }

    private static void objectsAreApart() {
        GlassBooths one = new GlassBooths();
        GlassBooths other = new GlassBooths();
        one.person(31, 31, 5);
        one.session(0, 0, 1);
        one.take(0, 0);
        one.speak(0, 1, 9);
        one.seats(2);
        one.limit(7);
        one.ill(0, true);
        due.is("1 other count(0)", other.count(0), 0);
        due.is("1 other count(1)", other.count(1), 0);
        due.is("1 other count(2)", other.count(2), 0);
        due.is("1 other count(3)", other.count(3), 0);
        due.is("1 other count(4)", other.count(4), 1);
        due.is("1 other lacking", other.lacking(0), 0);
        due.is("1 other limit", other.limit(20), 20);
    }

    private static void personNumbers() {
        GlassBooths x = new GlassBooths();
        due.is("2 knows nothing", x.person(0, 0, 1), 0);
        due.is("2 knows all", x.person(31, 31, 99), 1);
        due.is("2 speaks less than it knows", x.person(21, 5, 50), 2);
        due.is("2 speaks nothing", x.person(16, 0, 50), 3);
        due.is("2 count(0)", x.count(0), 4);
    }

    private static void personOutside() {
        GlassBooths x = new GlassBooths();
        int[] bad = {-1, 32, 33, 63, 64, Integer.MIN_VALUE, Integer.MAX_VALUE};
        for (int bits : bad) {
            due.is("2 knows " + bits, x.person(bits, 0, 1), OUTSIDE);
            due.is("2 speaks " + bits, x.person(31, bits, 1), OUTSIDE);
            due.is("2 both " + bits, x.person(bits, bits, 1), OUTSIDE);
        }
        for (int pay : new int[] {0, -1, 100, Integer.MIN_VALUE, Integer.MAX_VALUE}) {
            due.is("2 pay " + pay, x.person(31, 31, pay), OUTSIDE);
        }
        due.is("2 speaks what it does not know", x.person(1, 3, 1), OUTSIDE);
        due.is("2 speaks another one", x.person(15, 16, 1), OUTSIDE);
        due.is("2 nothing has changed", x.count(0), 0);
        due.is("2 the first is 0", x.person(1, 1, 1), 0);
    }

    private static void personFull() {
        GlassBooths x = new GlassBooths();
        for (int i = 0; i < 6; i++) {
            due.is("2 number", x.person(31, 31, 1), i);
        }
        due.is("2 full", x.person(31, 31, 1), FULL);
        due.is("2 outside comes before full", x.person(32, 0, 1), OUTSIDE);
        due.is("2 pay comes before full", x.person(31, 31, 0), OUTSIDE);
        due.is("2 speaks comes before full", x.person(1, 2, 1), OUTSIDE);
        due.is("2 count(0)", x.count(0), 6);
        due.is("2 no seventh", x.booth(6), UNKNOWN);
    }

    private static void personIsInNoBooth() {
        GlassBooths x = new GlassBooths();
        x.person(1, 1, 9);
        x.session(0, 0, 1);
        x.take(0, 0);
        x.person(1, 1, 1);
        due.is("2 the team stays", x.booth(0), 0);
        due.is("2 the new one is in no booth", x.booth(1), 5);
        due.is("2 the new one counts for teams", x.cheapest(0), 1);
        due.is("2 and the old team is nearest", x.nearest(0), 0);
    }

    private static void illAnswersWhatWas() {
        GlassBooths x = new GlassBooths();
        x.person(1, 1, 1);
        x.person(1, 1, 1);
        due.is("3 not ill, stays so", x.ill(0, false), 0);
        due.is("3 becomes ill", x.ill(0, true), 0);
        due.is("3 is ill", x.ill(0, true), 1);
        due.is("3 the other is not", x.ill(1, true), 0);
        due.is("3 count(1)", x.count(1), 2);
        due.is("3 becomes well", x.ill(0, false), 1);
        due.is("3 is well", x.ill(0, false), 0);
        due.is("3 count(1)", x.count(1), 1);
    }

    private static void illUnknown() {
        GlassBooths x = new GlassBooths();
        due.is("3 none there", x.ill(0, true), UNKNOWN);
        x.person(1, 1, 1);
        for (int person : new int[] {-1, 1, 5, 6, 32, Integer.MIN_VALUE, Integer.MAX_VALUE}) {
            due.is("3 ill " + person, x.ill(person, true), UNKNOWN);
        }
        due.is("3 nothing has changed", x.count(1), 0);
        x.person(1, 1, 1);
        due.is("3 the next was not ill", x.ill(1, false), 0);
    }

    private static void illLeavesTheTeam() {
        GlassBooths x = new GlassBooths();
        x.person(3, 1, 4);
        x.session(0, 2, 1);
        x.take(0, 0);
        x.speak(0, 1, 7);
        x.ill(0, true);
        due.is("3 booth", x.booth(0), 0);
        due.is("3 count(2)", x.count(2), 1);
        due.is("3 on", x.on(0, 0), 0);
        due.is("3 heard", x.heard(0, 0), 0);
        due.is("3 tired", x.tired(0, 0), 7);
        due.is("3 but no team can be had", x.whole(0), 0);
        due.is("3 nor taken", x.take(0, 1), NOT);
        due.is("3 and it stays", x.booth(0), 0);
    }

    private static void sessionSets() {
        GlassBooths x = new GlassBooths();
        x.person(3, 3, 7);
        due.is("4 session(0)", x.session(0, 2, 1), 1);
        due.is("4 session(1)", x.session(1, 4, 1), 1);
        due.is("4 whole(0)", x.whole(0), 1);
        due.is("4 whole(1)", x.whole(1), 0);
        due.is("4 again", x.session(1, 1, 2), 1);
        due.is("4 whole(1)", x.whole(1), 1);
        due.is("4 all", x.session(1, 31, 31), 1);
        due.is("4 lacking", x.lacking(1), 28);
        due.is("4 none", x.session(1, 0, 0), 1);
        due.is("4 lacking", x.lacking(1), 0);
        due.is("4 session 0 stays", x.whole(0), 1);
        x.take(0, 0);
        x.session(0, 0, 0);
        due.is("4 the team at hand stays", x.booth(0), 0);
    }

    private static void sessionRefusals() {
        GlassBooths x = new GlassBooths();
        for (int session : new int[] {-1, 2, Integer.MIN_VALUE, Integer.MAX_VALUE}) {
            due.is("4 session " + session, x.session(session, 0, 0), UNKNOWN);
            due.is("4 unknown comes first", x.session(session, 32, -1), UNKNOWN);
        }
        for (int bits : new int[] {-1, 32, 63, Integer.MIN_VALUE, Integer.MAX_VALUE}) {
            due.is("4 floors " + bits, x.session(0, bits, 1), OUTSIDE);
            due.is("4 wanted " + bits, x.session(1, 1, bits), OUTSIDE);
        }
        due.is("4 nothing has changed in 0", x.lacking(0), 0);
        due.is("4 nothing has changed in 1", x.whole(1), 1);
    }

    private static void seatsAnswersWhatWas() {
        GlassBooths x = new GlassBooths();
        due.is("5 from 1", x.seats(2), 1);
        due.is("5 stays", x.seats(2), 2);
        due.is("5 count(4)", x.count(4), 2);
        due.is("5 back", x.seats(1), 2);
        due.is("5 at 1", x.seats(1), 1);
        x.person(1, 1, 1);
        x.session(0, 0, 1);
        x.take(0, 0);
        x.seats(2);
        due.is("5 the team at hand stays", x.booth(0), 0);
        due.is("5 lacking by two seats", x.lacking(0), 1);
        due.is("5 whole by two seats", x.whole(0), 0);
    }

    private static void seatsOutside() {
        GlassBooths x = new GlassBooths();
        x.seats(2);
        for (int n : new int[] {0, 3, -1, Integer.MIN_VALUE, Integer.MAX_VALUE}) {
            due.is("5 seats " + n, x.seats(n), OUTSIDE);
        }
        due.is("5 nothing has changed", x.count(4), 2);
    }
}
