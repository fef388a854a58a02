/** 'Promise 1' to 'Promise 22': the least and the greatest answer of each call, and what it leaves as it was. */
public final class PromiseEdgesTest {
    private static final int NONE = -1, UNKNOWN = -2, OUTSIDE = -3, NOT = -4, FULL = -5;
    private static final Due due = new Due("PromiseEdgesTest");

    public static void main(String[] args) {
        newObject();
        person();
        personInNoBooth();
        ill();
        illLeavesTheTeam();
        session();
        seats();
        whole();
        cheapest();
        nearest();
        take();
        takeNot();
        takeOrderOfRefusals();
        leave();
        booth();
        lacking();
        needed();
        speak();
        silence();
        limit();
        on();
        heard();
        tired();
        late();
        worn();
        count();
        constants();
        calls512();
        due.end();
    }

    private static void newObject() {
        due.of("1 A new object: No PEOPLE, nothing WANTED, silence");
        GlassBooths x = new GlassBooths();
        for (int person = 0; person < 6; person++) {
            due.is("booth(" + person + ")", x.booth(person), UNKNOWN);
            due.is("tired(" + person + ", 0)", x.tired(person, 0), UNKNOWN);
            due.is("needed(" + person + ", 0)", x.needed(person, 0), UNKNOWN);
            due.is("ill(" + person + ")", x.ill(person, true), UNKNOWN);
        }
        for (int session = 0; session < 2; session++) {
            due.is("whole(" + session + ")", x.whole(session), 1);
            due.is("cheapest(" + session + ")", x.cheapest(session), 0);
            due.is("nearest(" + session + ")", x.nearest(session), 0);
            due.is("lacking(" + session + ")", x.lacking(session), 0);
            due.is("take(" + session + ", 0)", x.take(session, 0), 0);
            due.is("take(" + session + ", 1)", x.take(session, 1), 0);
        }
        for (int half = 0; half < 16; half++) {
            due.is("silence(" + half + ")", x.silence(half), 0);
        }
        int[] counts = {0, 0, 0, 0, 1};
        for (int what = 0; what < 5; what++) {
            due.is("count(" + what + ")", x.count(what), counts[what]);
        }
        due.is("leave()", x.leave(), 0);
        due.is("worn()", x.worn(), 0);
    }

    private static void person() {
        due.of("2 person: the number; FULL");
        GlassBooths x = new GlassBooths();
        due.is("least of all", x.person(0, 0, 1), 0);
        due.is("refused between", x.person(0, 0, 0), OUTSIDE);
        due.is("greatest of all", x.person(31, 31, 99), 1);
        due.is("refused between", x.person(30, 31, 99), OUTSIDE);
        due.is("the same again", x.person(31, 31, 99), 2);
        due.is("fourth", x.person(16, 16, 1), 3);
        due.is("fifth", x.person(16, 0, 1), 4);
        due.is("sixth", x.person(1, 1, 1), 5);
        due.is("seventh", x.person(1, 1, 1), FULL);
        due.is("seventh, OUTSIDE by pay", x.person(1, 1, 0), OUTSIDE);
        due.is("seventh, OUTSIDE by pay", x.person(1, 1, 100), OUTSIDE);
        due.is("seventh, OUTSIDE by knows", x.person(32, 0, 1), OUTSIDE);
        due.is("seventh, OUTSIDE by speaks", x.person(31, 32, 1), OUTSIDE);
        due.is("seventh, OUTSIDE: speaks what it does not know", x.person(0, 1, 1), OUTSIDE);
        for (int person = 0; person < 5; person++) {
            x.ill(person, true);
        }
        due.is("illness makes no room", x.person(1, 1, 1), FULL);
    }

    private static void personInNoBooth() {
        due.of("2 person: (It is in no BOOTH.)");
        GlassBooths x = new GlassBooths();
        x.session(0, 31, 1);
        for (int person = 0; person < 6; person++) {
            x.person(31, 31, 90 - person);
            due.is("booth(" + person + ")", x.booth(person), 5);
            due.is("count(2)", x.count(2), Math.min(1, person));
            x.take(0, 0);
            due.is("the cheaper one is taken", x.booth(person), 0);
        }
    }

    private static void ill() {
        due.of("3 ill: whether it was (1, 0)");
        for (int person = 0; person < 6; person++) {
            GlassBooths x = Scenes.ableOnes(6);
            due.is("false at first", x.ill(person, false), 0);
            due.is("true", x.ill(person, true), 0);
            due.is("true again", x.ill(person, true), 1);
            due.is("count(1)", x.count(1), 1);
            due.is("false", x.ill(person, false), 1);
            due.is("false again", x.ill(person, false), 0);
            due.is("count(1)", x.count(1), 0);
        }
        GlassBooths x = Scenes.ableOnes(2);
        due.is("the last", x.ill(1, true), 0);
        due.is("one above", x.ill(2, true), UNKNOWN);
        due.is("one below", x.ill(-1, true), UNKNOWN);
        due.is("the least int", x.ill(Scenes.LEAST, true), UNKNOWN);
        due.is("the greatest int", x.ill(Scenes.GREATEST, true), UNKNOWN);
        due.is("count(1)", x.count(1), 1);
        x.person(1, 1, 1);
        due.is("the one added later is well", x.ill(2, false), 0);
    }

    private static void illLeavesTheTeam() {
        due.of("3 ill: (THE TEAM at hand stays.)");
        GlassBooths x = Scenes.pair();
        x.speak(0, 1, 9);
        x.ill(0, true);
        x.ill(1, true);
        due.is("booth(0)", x.booth(0), 0);
        due.is("booth(1)", x.booth(1), 0);
        due.is("count(2)", x.count(2), 2);
        due.is("on", x.on(0, 0), 0);
        due.is("heard", x.heard(0, 0), 0);
        due.is("tired", x.tired(0, 0), 9);
        due.is("late", x.late(0), 2);
        due.is("no other can be taken", x.take(0, 1), NOT);
        due.is("leave", x.leave(), 2);
    }

    private static void session() {
        due.of("4 session: FLOORS and WANTED TONGUES of a SESSION: 1");
        GlassBooths x = new GlassBooths();
        for (int bits = -2; bits <= 34; bits++) {
            boolean good = bits >= 0 && bits <= 31;
            due.is("floors " + bits, x.session(0, bits, 0), good ? 1 : OUTSIDE);
            due.is("wanted " + bits, x.session(1, 0, bits), good ? 1 : OUTSIDE);
            due.is("lacking(0)", x.lacking(0), 0);
            due.is("lacking(1)", x.lacking(1), good ? bits : bits < 0 ? 0 : 31);
        }
        due.is("floors of the least int", x.session(0, Scenes.LEAST, 0), OUTSIDE);
        due.is("floors of the greatest int", x.session(0, Scenes.GREATEST, 0), OUTSIDE);
        due.is("wanted of the least int", x.session(0, 0, Scenes.LEAST), OUTSIDE);
        due.is("wanted of the greatest int", x.session(0, 0, Scenes.GREATEST), OUTSIDE);
        due.is("UNKNOWN before OUTSIDE", x.session(2, 32, 32), UNKNOWN);
        due.is("UNKNOWN before OUTSIDE", x.session(-1, -1, -1), UNKNOWN);
        due.of("4 session: one wrong number refuses both");
        GlassBooths y = new GlassBooths();
        y.person(3, 2, 1);
        y.session(0, 1, 2);
        due.is("good wanted, wrong floors", y.session(0, 32, 4), OUTSIDE);
        due.is("wanted stays", y.lacking(0), 0);
        due.is("good floors, wrong wanted", y.session(0, 4, 32), OUTSIDE);
        due.is("floors stay", y.whole(0), 1);
        due.is("set again", y.session(0, 4, 2), 1);
        due.is("floors are new", y.whole(0), 0);
    }

    private static void seats() {
        due.of("5 seats: that which it was");
        GlassBooths x = new GlassBooths();
        int[] set = {1, 2, 2, 1, 1};
        int[] was = {1, 1, 2, 2, 1};
        for (int i = 0; i < set.length; i++) {
            due.is("seats(" + set[i] + ")", x.seats(set[i]), was[i]);
            due.is("seats(0)", x.seats(0), OUTSIDE);
            due.is("seats(3)", x.seats(3), OUTSIDE);
            due.is("count(4)", x.count(4), set[i]);
        }
    }

    private static void whole() {
        due.of("6 whole: How many WHOLE TEAMS");
        GlassBooths x = Scenes.ableOnes(6);
        int[] one = {1, 6, 30, 120, 360, 720};
        int[] two = {1, 15, 90, 90, 0, 0};
        for (int wanted = 0; wanted <= 31; wanted++) {
            x.session(0, 31, wanted);
            x.seats(1);
            due.is("whole, wanted " + wanted, x.whole(0), one[Integer.bitCount(wanted)]);
            x.seats(2);
            due.is("whole, two seats, wanted " + wanted, x.whole(0), two[Integer.bitCount(wanted)]);
        }
        GlassBooths y = new GlassBooths();
        for (int wanted = 0; wanted <= 31; wanted++) {
            y.session(1, 0, wanted);
            due.is("no people, wanted " + wanted, y.whole(1), wanted == 0 ? 1 : 0);
        }
    }

    private static void cheapest() {
        due.of("7 cheapest: PAYS; NONE");
        GlassBooths x = new GlassBooths();
        for (int person = 0; person < 6; person++) {
            x.person(31, 31, 99);
        }
        due.is("nothing wanted", x.cheapest(0), 0);
        x.session(0, 31, 31);
        due.is("five of 99", x.cheapest(0), 495);
        x.seats(2);
        due.is("no team of ten", x.cheapest(0), NONE);
        x.session(0, 31, 7);
        due.is("six of 99", x.cheapest(0), 594);
        x.ill(3, true);
        due.is("no team of five", x.cheapest(0), NONE);
        due.is("the other session", x.cheapest(1), 0);
    }

    private static void nearest() {
        due.of("8 nearest: How many of PEOPLE are elsewhere; NONE");
        GlassBooths x = Scenes.ableOnes(6);
        x.seats(2);
        due.is("nothing wanted, no one in booths", x.nearest(0), 0);
        x.session(0, 31, 7);
        due.is("all six into booths", x.nearest(0), 6);
        x.take(0, 0);
        due.is("all are there", x.nearest(0), 0);
        due.is("all six out of booths", x.nearest(1), 6);
        x.session(1, 31, 8);
        due.is("two into another, four out", x.nearest(1), 6);
        x.session(1, 31, 4);
        due.is("two stay, four out", x.nearest(1), 4);
        x.session(1, 31, 11);
        due.is("two into another", x.nearest(1), 2);
        x.session(1, 31, 31);
        due.is("no team of ten", x.nearest(1), NONE);
        x.leave();
        due.is("all six into booths again", x.nearest(0), 6);
        due.of("8 nearest: one who has become ILL is elsewhere in it");
        GlassBooths y = Scenes.ableOnes(2);
        y.session(0, 31, 1);
        y.take(0, 0);
        y.ill(0, true);
        due.is("one out, one in", y.nearest(0), 2);
        y.ill(1, true);
        due.is("none", y.nearest(0), NONE);
    }

    private static void take() {
        due.of("9 take: its PAYS");
        GlassBooths x = new GlassBooths();
        x.person(1, 1, 9);
        x.person(1, 1, 8);
        due.is("nothing wanted, cheapest", x.take(0, 0), 0);
        due.is("nothing wanted, nearest", x.take(0, 1), 0);
        x.session(0, 0, 1);
        due.is("nearest from no one: least PAYS", x.take(0, 1), 8);
        x.ill(1, true);
        due.is("cheapest", x.take(0, 0), 9);
        x.ill(1, false);
        due.is("nearest stays", x.take(0, 1), 9);
        due.is("cheapest does not", x.take(0, 0), 8);
        due.is("booth(0)", x.booth(0), 5);
        due.is("booth(1)", x.booth(1), 0);
        due.is("a session that wants nothing", x.take(1, 1), 0);
        due.is("all are out", x.count(2), 0);
    }

    private static void takeNot() {
        due.of("9 take: NOT: there is no WHOLE one");
        GlassBooths x = Scenes.chain();
        x.session(1, 8, 2);
        due.is("no way, cheapest", x.take(1, 0), NOT);
        due.is("no way, nearest", x.take(1, 1), NOT);
        x.session(1, 0, 8);
        due.is("lacking", x.take(1, 0), NOT);
        x.session(1, 0, 6);
        x.seats(2);
        due.is("too few", x.take(1, 1), NOT);
        due.is("booth(0) stays", x.booth(0), 1);
        due.is("booth(1) stays", x.booth(1), 2);
        GlassBooths y = new GlassBooths();
        y.session(0, 0, 1);
        due.is("no people", y.take(0, 0), NOT);
    }

    private static void takeOrderOfRefusals() {
        due.of("9 take: UNKNOWN; OUTSIDE; NOT: the first of these that fits");
        GlassBooths x = new GlassBooths();
        x.session(0, 0, 1);
        for (int way : new int[] {-1, 0, 1, 2, Scenes.LEAST, Scenes.GREATEST}) {
            boolean good = way == 0 || way == 1;
            due.is("no whole one, way " + way, x.take(0, way), good ? NOT : OUTSIDE);
            due.is("a whole one, way " + way, x.take(1, way), good ? 0 : OUTSIDE);
            due.is("session 2, way " + way, x.take(2, way), UNKNOWN);
            due.is("session -1, way " + way, x.take(-1, way), UNKNOWN);
        }
    }

    private static void leave() {
        due.of("10 leave: THE TEAM at hand becomes empty: how many were in BOOTHS");
        for (int people = 0; people <= 6; people++) {
            GlassBooths x = Scenes.ableOnes(people);
            x.seats(people == 6 ? 2 : 1);
            x.session(0, 0, people == 6 ? 7 : (1 << people) - 1);
            due.is("take", x.take(0, 0), people);
            due.is("leave", x.leave(), people);
            due.is("leave again", x.leave(), 0);
            due.is("count(2)", x.count(2), 0);
            due.is("count(0)", x.count(0), people);
            due.is("whole stays", Math.min(1, x.whole(0)), 1);
        }
    }

    private static void booth() {
        due.of("11 booth: BOOTH of a PERSON in THE TEAM at hand (5: none)");
        GlassBooths x = Scenes.ableOnes(6);
        x.session(0, 0, 31);
        x.take(0, 0);
        for (int person = 0; person < 6; person++) {
            due.is("booth(" + person + ")", x.booth(person), person);
        }
        due.is("booth(6)", x.booth(6), UNKNOWN);
        due.is("booth(-1)", x.booth(-1), UNKNOWN);
        due.is("booth(least)", x.booth(Scenes.LEAST), UNKNOWN);
        due.is("booth(greatest)", x.booth(Scenes.GREATEST), UNKNOWN);
        x.leave();
        for (int person = 0; person < 6; person++) {
            due.is("booth(" + person + ") left", x.booth(person), 5);
        }
    }

    private static void lacking() {
        due.of("12 lacking: LACKING TONGUES, by bits");
        for (int wanted = 0; wanted <= 31; wanted++) {
            GlassBooths x = new GlassBooths();
            x.session(0, 0, wanted);
            due.is("no people", x.lacking(0), wanted);
            x.person(31, 21, 1);
            due.is("one speaks 21", x.lacking(0), wanted & 10);
            x.person(31, 18, 1);
            due.is("another 18", x.lacking(0), wanted & 8);
            x.seats(2);
            due.is("two seats", x.lacking(0), wanted & 15);
        }
        due.of("12 lacking: one who could sit in two BOOTHS counts for both");
        GlassBooths x = Scenes.ableOnes(1);
        x.session(0, 0, 31);
        due.is("lacking", x.lacking(0), 0);
        due.is("yet no team is whole", x.whole(0), 0);
    }

    private static void needed() {
        due.of("13 needed: Whether a PERSON is NEEDED for a SESSION (1, 0)");
        GlassBooths x = Scenes.chain();
        x.person(0, 0, 1);
        due.is("the relay", x.needed(0, 0), 1);
        due.is("who hears by it", x.needed(1, 0), 1);
        due.is("one who speaks nothing", x.needed(2, 0), 0);
        due.is("a session that wants nothing", x.needed(0, 1), 0);
        x.leave();
        due.is("whether or not it is in THE TEAM at hand", x.needed(0, 0), 1);
        x.person(6, 4, 99);
        due.is("another for the second", x.needed(1, 0), 0);
        due.is("the relay still", x.needed(0, 0), 1);
        due.is("a person too many", x.needed(4, 0), UNKNOWN);
        due.is("a session too many", x.needed(0, 2), UNKNOWN);
    }

    private static void speak() {
        due.of("14 speak: In a HALF a TONGUE is spoken with a SPEED: 1");
        GlassBooths x = Scenes.alone();
        due.is("first half, least tongue, least speed", x.speak(0, 0, 1), 1);
        due.is("last half, greatest tongue, greatest speed", x.speak(15, 4, 9), 1);
        due.is("count(3)", x.count(3), 2);
        due.is("spoken over", x.speak(15, 4, 1), 1);
        due.is("count(3)", x.count(3), 2);
        due.is("the new speed holds", x.tired(0, 15), 1);
        due.is("spoken over by its own tongue", x.speak(15, 0, 1), 1);
        due.is("the new tongue holds", x.heard(0, 15), NONE);
        due.is("UNKNOWN half before OUTSIDE speed", x.speak(16, 0, 0), UNKNOWN);
        due.is("UNKNOWN tongue before OUTSIDE speed", x.speak(0, 5, 10), UNKNOWN);
        due.is("OUTSIDE", x.speak(15, 4, 10), OUTSIDE);
        due.is("the old tongue stays", x.heard(0, 15), NONE);
    }

    private static void silence() {
        due.of("15 silence: whether it was not (1, 0)");
        for (int half = 0; half < 16; half++) {
            GlassBooths x = Scenes.alone();
            for (int tongue = 0; tongue < 5; tongue++) {
                x.speak(half, tongue, 9);
                due.is("silence(" + half + ") of " + tongue, x.silence(half), 1);
                due.is("silence(" + half + ") again", x.silence(half), 0);
                due.is("count(3)", x.count(3), 0);
                due.is("heard", x.heard(0, half), NONE);
                due.is("tired", x.tired(0, half), 0);
            }
        }
        GlassBooths x = Scenes.alone();
        for (int half = 0; half < 16; half++) {
            x.speak(half, 1, 1);
        }
        x.silence(7);
        due.is("only that one", x.count(3), 15);
    }

    private static void limit() {
        due.of("16 limit: that which it was");
        GlassBooths x = new GlassBooths();
        int[] set = {20, 5, 5, 60, 60, 6, 59};
        int[] was = {20, 20, 5, 5, 60, 60, 6};
        for (int i = 0; i < set.length; i++) {
            due.is("limit(" + set[i] + ")", x.limit(set[i]), was[i]);
            due.is("limit(4)", x.limit(4), OUTSIDE);
            due.is("limit(61)", x.limit(61), OUTSIDE);
        }
        due.is("limit(60)", x.limit(60), 59);
    }

    private static void on() {
        due.of("17 on: Who is ON in the BOOTH; NONE: no one sits there");
        GlassBooths x = Scenes.ableOnes(6);
        for (int tongue = 0; tongue < 5; tongue++) {
            due.is("no one sits in " + tongue, x.on(tongue, 0), NONE);
        }
        x.session(0, 0, 20);
        x.take(0, 0);
        int[] want = {NONE, NONE, 0, NONE, 1};
        for (int tongue = 0; tongue < 5; tongue++) {
            due.is("silent, on(" + tongue + ", 0)", x.on(tongue, 0), want[tongue]);
            x.speak(3, tongue, 9);
            due.is("its own tongue or another, on(" + tongue + ", 3)", x.on(tongue, 3), want[tongue]);
            due.is("behind the last spoken, on(" + tongue + ", 15)", x.on(tongue, 15), want[tongue]);
        }
        x.leave();
        due.is("left", x.on(2, 0), NONE);
    }

    private static void heard() {
        due.of("18 heard: NONE: it is not (also silence, its own TONGUE spoken, no one there)");
        GlassBooths x = Scenes.chain();
        due.is("silence", x.heard(1, 0), NONE);
        x.speak(0, 1, 1);
        due.is("its own tongue spoken", x.heard(1, 0), NONE);
        x.speak(0, 0, 1);
        due.is("no one there, tongue spoken", x.heard(0, 0), NONE);
        due.is("no one there", x.heard(4, 0), NONE);
        due.is("direct: that tongue itself", x.heard(1, 0), 1);
        due.is("the relay", x.heard(2, 0), 1);
        due.is("the half behind is silent", x.heard(1, 1), NONE);
        x.speak(0, 4, 1);
        due.is("known to no one", x.heard(2, 0), NONE);
        x.speak(15, 0, 1);
        due.is("in the last half", x.heard(2, 15), 1);
        due.of("18 heard: tongue 0 itself and the RELAY 0 answer 0, not NONE");
        GlassBooths y = new GlassBooths();
        y.person(17, 1, 1);
        y.person(9, 8, 1);
        y.session(0, 0, 9);
        y.take(0, 0);
        y.speak(0, 4, 1);
        due.is("booth 0 direct", y.heard(0, 0), 0);
        due.is("booth 3 by the relay 0", y.heard(3, 0), 0);
        due.is("booth 0 is late", y.late(0), 1);
        due.is("booth 3 is late", y.late(3), 3);
    }

    private static void tired() {
        due.of("19 tired: TIREDNESS of a PERSON behind a HALF");
        GlassBooths x = Scenes.alone();
        for (int half = 0; half < 16; half++) {
            x.speak(half, 4, 9);
        }
        for (int half = 0; half < 16; half++) {
            due.is("tired(0, " + half + ")", x.tired(0, half), 9 * half + 9);
        }
        due.is("half 16", x.tired(0, 16), UNKNOWN);
        due.is("half -1", x.tired(0, -1), UNKNOWN);
        due.is("person 1", x.tired(1, 0), UNKNOWN);
        due.is("person -1", x.tired(-1, 0), UNKNOWN);
        x.person(1, 1, 1);
        due.is("one added later", x.tired(1, 15), 0);
    }

    private static void late() {
        due.of("20 late: in all HALVES together");
        GlassBooths x = Scenes.chain();
        int sum = 0;
        for (int half = 0; half < 16; half++) {
            int speed = half % 2 == 0 ? 5 : 6;
            x.speak(half, 0, speed);
            sum += speed == 5 ? 1 : 2;
            due.is("direct, to half " + half, x.late(1), sum);
            due.is("by relay, to half " + half, x.late(2), 2 * sum + half + 1);
        }
        due.is("no one there", x.late(0), 0);
        due.is("tongue 5", x.late(5), UNKNOWN);
        due.is("tongue -1", x.late(-1), UNKNOWN);
        due.of("20 late: whoever of the BOOTH is ON");
        GlassBooths y = Scenes.pair();
        for (int half = 0; half < 16; half++) {
            y.speak(half, 1, 6);
        }
        due.is("both take turns", y.late(0), 32);
    }

    private static void worn() {
        due.of("21 worn: WORN OUT ones, by bits");
        GlassBooths x = new GlassBooths();
        for (int person = 0; person < 6; person++) {
            x.person(31, 1 << person / 2, 1);
        }
        x.seats(2);
        x.session(0, 0, 7);
        x.take(0, 0);
        x.limit(5);
        due.is("none", x.worn(), 0);
        x.speak(0, 3, 6);
        due.is("those on in half 0", x.worn(), 21);
        x.speak(1, 3, 6);
        due.is("all six", x.worn(), 63);
        x.silence(0);
        due.is("half 0 is silent", x.worn(), 21);
        x.speak(1, 1, 6);
        due.is("but not in the booth of the tongue spoken", x.worn(), 17);
        x.limit(6);
        due.is("none above 6", x.worn(), 0);
    }

    private static void count() {
        due.of("22 count: 0 PEOPLE, 1 ILL ones, 2 those in BOOTHS, 3 HALVES that are not silent, 4 SEATS");
        GlassBooths x = Scenes.ableOnes(6);
        for (int half = 0; half < 16; half++) {
            x.speak(half, half % 5, 1);
        }
        x.seats(2);
        x.session(0, 0, 7);
        x.take(0, 0);
        for (int person = 0; person < 6; person++) {
            x.ill(person, true);
        }
        int[] most = {6, 6, 6, 16, 2};
        for (int what = -1; what <= 5; what++) {
            boolean good = what >= 0 && what <= 4;
            due.is("most, count(" + what + ")", x.count(what), good ? most[what] : OUTSIDE);
        }
        due.is("count(least)", x.count(Scenes.LEAST), OUTSIDE);
        due.is("count(greatest)", x.count(Scenes.GREATEST), OUTSIDE);
    }

    private static void constants() {
        due.of("The public face: NONE = -1, UNKNOWN = -2, OUTSIDE = -3, NOT = -4, FULL = -5");
        due.is("NONE", GlassBooths.NONE, -1);
        due.is("UNKNOWN", GlassBooths.UNKNOWN, -2);
        due.is("OUTSIDE", GlassBooths.OUTSIDE, -3);
        due.is("NOT", GlassBooths.NOT, -4);
        due.is("FULL", GlassBooths.FULL, -5);
    }

    private static void calls512() {
        due.of("What it is: An object is used for at most 512 calls");
        GlassBooths x = Scenes.ableOnes(6);
        x.session(0, 31, 31);
        x.speak(0, 0, 9);
        for (int call = 9; call <= 510; call += 2) {
            due.is("call " + call, x.take(0, call / 2 % 2), 5);
            due.is("call " + (call + 1), x.leave(), 5);
        }
        due.is("call 511", x.leave(), 0);
        due.is("call 512", x.nearest(0), 5);
    }
}
