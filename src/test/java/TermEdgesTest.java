/** 'Terms': a test for each sentence that names a bound, a first state, or which of several. */
public final class TermEdgesTest {
    private static final int NONE = -1, UNKNOWN = -2, OUTSIDE = -3, NOT = -4, FULL = -5;
    private static final int LEAST = Scenes.LEAST, GREATEST = Scenes.GREATEST;
    private static final Due due = new Due("TermEdgesTest");

    public static void main(String[] args) {
        tongues();
        peopleAtMost();
        knowsASet();
        speaksASetOfThese();
        payBounds();
        noneIsIllAtFirst();
        sessionsTwo();
        sessionsAtFirst();
        seatsBounds();
        seatsAtFirst();
        boothOrNone();
        asManyAsSeats();
        allOfThemSpeakIt();
        noneOfThemIsIll();
        noOneInAnotherBooth();
        eachFloorAndEachWanted();
        wantedOtherThanFloor();
        directAllKnow();
        relayIsWanted();
        relayAllKnowIt();
        relayAllKnowTheFloor();
        relayIsAnyOtherTongue();
        relayForEachFloor();
        relayIsOneAtMost();
        orderOfTeams();
        cheapestOfSeveral();
        nearestFewest();
        nearestOfSeveralLeastPays();
        nearestOfSeveralTheFirst();
        lackingFewerThanSeats();
        lackingOnlyWantedAndWell();
        neededIfThereIsATeam();
        neededNoneWithout();
        due.end();
    }

    private static void booths(GlassBooths x, int... want) {
        for (int person = 0; person < want.length; person++) {
            due.is("booth(" + person + ")", x.booth(person), want[person]);
        }
    }

    private static void tongues() {
        due.of("Terms: TONGUES are 0 .. 4.");
        GlassBooths x = new GlassBooths();
        for (int tongue = 0; tongue < 5; tongue++) {
            due.is("person for " + tongue, x.person(1 << tongue, 1 << tongue, 1), tongue);
        }
        x.session(0, 0, 31);
        due.is("take all five", x.take(0, 0), 5);
        booths(x, 0, 1, 2, 3, 4);
        due.is("on(-1)", x.on(-1, 0), UNKNOWN);
        due.is("on(0)", x.on(0, 0), 0);
        due.is("on(4)", x.on(4, 0), 4);
        due.is("on(5)", x.on(5, 0), UNKNOWN);
        due.is("late(4)", x.late(4), 0);
        due.is("late(5)", x.late(5), UNKNOWN);
        due.is("speak tongue 4", x.speak(0, 4, 1), 1);
        due.is("speak tongue 5", x.speak(0, 5, 1), UNKNOWN);
    }

    private static void peopleAtMost() {
        due.of("Terms: PEOPLE are numbered from 0, 6 at most");
        GlassBooths x = new GlassBooths();
        for (int person = 0; person < 6; person++) {
            due.is("not yet", x.booth(person), UNKNOWN);
            due.is("person", x.person(person, person, 1 + person), person);
            due.is("booth", x.booth(person), 5);
            due.is("count(0)", x.count(0), person + 1);
        }
        for (int again = 0; again < 3; again++) {
            due.is("a seventh", x.person(1, 1, 1), FULL);
        }
        due.is("count(0)", x.count(0), 6);
        due.is("booth(5)", x.booth(5), 5);
        due.is("booth(6)", x.booth(6), UNKNOWN);
        due.is("ill(5)", x.ill(5, true), 0);
        due.is("ill(6)", x.ill(6, true), UNKNOWN);
        due.is("tired(5)", x.tired(5, 0), 0);
        due.is("tired(6)", x.tired(6, 0), UNKNOWN);
        due.is("needed(5)", x.needed(5, 0), 0);
        due.is("needed(6)", x.needed(6, 0), UNKNOWN);
    }

    private static void knowsASet() {
        due.of("Terms: each KNOWS a set of TONGUES (bits)");
        for (int knows = -40; knows <= 80; knows++) {
            GlassBooths x = new GlassBooths();
            due.is("person(" + knows + ", 0, 1)", x.person(knows, 0, 1), knows >= 0 && knows <= 31 ? 0 : OUTSIDE);
        }
        GlassBooths x = new GlassBooths();
        for (int bit = 5; bit < 32; bit++) {
            due.is("person knows bit " + bit, x.person(1 << bit, 0, 1), OUTSIDE);
            due.is("person knows 31 and bit " + bit, x.person(31 | 1 << bit, 31, 1), OUTSIDE);
        }
        due.is("knows the least int", x.person(LEAST, 0, 1), OUTSIDE);
        due.is("knows the greatest int", x.person(GREATEST, 0, 1), OUTSIDE);
        due.is("count(0)", x.count(0), 0);
    }

    private static void speaksASetOfThese() {
        due.of("Terms: SPEAKS a set of these");
        for (int knows = 0; knows <= 31; knows++) {
            for (int speaks = -33; speaks <= 65; speaks++) {
                boolean good = speaks >= 0 && speaks <= 31 && (speaks | knows) == knows;
                GlassBooths x = new GlassBooths();
                due.is("person(" + knows + ", " + speaks + ", 1)", x.person(knows, speaks, 1), good ? 0 : OUTSIDE);
                due.is("count(0)", x.count(0), good ? 1 : 0);
            }
        }
        GlassBooths x = new GlassBooths();
        due.is("speaks the least int", x.person(31, LEAST, 1), OUTSIDE);
        due.is("speaks the greatest int", x.person(31, GREATEST, 1), OUTSIDE);
    }

    private static void payBounds() {
        due.of("Terms: PAY (1 .. 99)");
        for (int pay = -2; pay <= 102; pay++) {
            GlassBooths x = new GlassBooths();
            boolean good = pay >= 1 && pay <= 99;
            due.is("person(1, 1, " + pay + ")", x.person(1, 1, pay), good ? 0 : OUTSIDE);
            x.session(0, 0, 1);
            due.is("cheapest with pay " + pay, x.cheapest(0), good ? pay : NONE);
        }
        GlassBooths x = new GlassBooths();
        due.is("pay of the least int", x.person(1, 1, LEAST), OUTSIDE);
        due.is("pay of the greatest int", x.person(1, 1, GREATEST), OUTSIDE);
    }

    private static void noneIsIllAtFirst() {
        due.of("Terms: One may be ILL (none is at first)");
        GlassBooths x = new GlassBooths();
        x.session(0, 0, 1);
        for (int person = 0; person < 6; person++) {
            x.person(1, 1, 1);
            due.is("count(1)", x.count(1), person);
            due.is("whole by the new one alone", x.whole(0), 1);
            due.is("ill(" + person + ")", x.ill(person, true), 0);
            due.is("whole without it", x.whole(0), 0);
        }
        due.is("count(1)", x.count(1), 6);
    }

    private static void sessionsTwo() {
        due.of("Terms: SESSIONS are 0 and 1");
        int[] sessions = {-1, 0, 1, 2, LEAST, GREATEST};
        GlassBooths x = Scenes.ableOnes(1);
        for (int session : sessions) {
            boolean good = session == 0 || session == 1;
            due.is("session(" + session + ")", x.session(session, 0, 1), good ? 1 : UNKNOWN);
            due.is("whole(" + session + ")", x.whole(session), good ? 1 : UNKNOWN);
            due.is("cheapest(" + session + ")", x.cheapest(session), good ? 1 : UNKNOWN);
            due.is("nearest(" + session + ")", x.nearest(session), good ? 1 : UNKNOWN);
            due.is("lacking(" + session + ")", x.lacking(session), good ? 0 : UNKNOWN);
            due.is("needed(0, " + session + ")", x.needed(0, session), good ? 1 : UNKNOWN);
        }
        for (int session : sessions) {
            x.leave();
            due.is("take(" + session + ")", x.take(session, 0), session == 0 || session == 1 ? 1 : UNKNOWN);
        }
    }

    private static void sessionsAtFirst() {
        due.of("Terms: FLOORS and WANTED ones; none at first");
        for (int people = 0; people <= 6; people++) {
            GlassBooths x = Scenes.ableOnes(people);
            for (int session = 0; session < 2; session++) {
                due.is("lacking", x.lacking(session), 0);
                due.is("whole: the team with no one", x.whole(session), 1);
                due.is("take", x.take(session, 0), 0);
                due.is("count(2)", x.count(2), 0);
            }
        }
        GlassBooths x = new GlassBooths();
        x.session(0, 31, 31);
        due.is("lacking(0)", x.lacking(0), 31);
        due.is("lacking(1) is still none", x.lacking(1), 0);
    }

    private static void seatsBounds() {
        due.of("Terms: SEATS (1 or 2)");
        GlassBooths x = new GlassBooths();
        due.is("seats(0)", x.seats(0), OUTSIDE);
        due.is("seats(1)", x.seats(1), 1);
        due.is("seats(2)", x.seats(2), 1);
        due.is("seats(3)", x.seats(3), OUTSIDE);
        due.is("seats(-1)", x.seats(-1), OUTSIDE);
        due.is("seats(least)", x.seats(LEAST), OUTSIDE);
        due.is("seats(greatest)", x.seats(GREATEST), OUTSIDE);
        due.is("count(4)", x.count(4), 2);
    }

    private static void seatsAtFirst() {
        due.of("Terms: SEATS, 1 at first");
        due.is("count(4)", new GlassBooths().count(4), 1);
        due.is("seats(2)", new GlassBooths().seats(2), 1);
        GlassBooths x = Scenes.ableOnes(1);
        x.session(0, 0, 1);
        due.is("one is enough", x.whole(0), 1);
        due.is("none lacking", x.lacking(0), 0);
    }

    private static void boothOrNone() {
        due.of("Terms: a BOOTH (a TONGUE) or none (5)");
        GlassBooths x = Scenes.ableOnes(1);
        due.is("booth at first", x.booth(0), 5);
        for (int tongue = 0; tongue < 5; tongue++) {
            x.session(0, 0, 1 << tongue);
            x.take(0, 0);
            due.is("booth", x.booth(0), tongue);
        }
        x.session(0, 0, 0);
        x.take(0, 0);
        due.is("booth, nothing wanted", x.booth(0), 5);
    }

    private static void asManyAsSeats() {
        due.of("Terms: as many as SEATS are in the BOOTH of each WANTED TONGUE");
        int[] one = {0, 1, 2, 3, 4, 5, 6};
        int[] two = {0, 0, 1, 3, 6, 10, 15};
        int[] oneInBoth = {0, 0, 2, 6, 12, 20, 30};
        int[] twoInBoth = {0, 0, 0, 0, 6, 30, 90};
        for (int people = 0; people <= 6; people++) {
            GlassBooths x = Scenes.ableOnes(people);
            x.session(0, 31, 16);
            x.session(1, 31, 17);
            due.is(people + " people, one seat", x.whole(0), one[people]);
            due.is(people + " people, one seat in two booths", x.whole(1), oneInBoth[people]);
            x.seats(2);
            due.is(people + " people, two seats", x.whole(0), two[people]);
            due.is(people + " people, two seats in two booths", x.whole(1), twoInBoth[people]);
        }
    }

    private static void allOfThemSpeakIt() {
        due.of("Terms: all of them SPEAK it");
        for (int tongue = 0; tongue < 5; tongue++) {
            GlassBooths x = new GlassBooths();
            x.person(31, 31 - (1 << tongue), 1);
            x.session(0, 0, 1 << tongue);
            due.is("knows it, does not speak it", x.whole(0), 0);
            x.person(1 << tongue, 1 << tongue, 1);
            due.is("one speaks it", x.whole(0), 1);
            x.seats(2);
            due.is("one of two speaks it", x.whole(0), 0);
            x.person(1 << tongue, 1 << tongue, 1);
            due.is("two speak it", x.whole(0), 1);
        }
    }

    private static void noneOfThemIsIll() {
        due.of("Terms: none of them is ILL");
        GlassBooths x = Scenes.ableOnes(6);
        x.session(0, 31, 1);
        for (int ill = 0; ill < 6; ill++) {
            due.is(ill + " ill, one seat", x.whole(0), 6 - ill);
            x.ill(ill, true);
        }
        due.is("all ill", x.whole(0), 0);
        due.is("all ill, take", x.take(0, 0), NOT);
        x.ill(5, false);
        due.is("the last is well", x.take(0, 0), 1);
        booths(x, 5, 5, 5, 5, 5, 0);
        x.seats(2);
        due.is("one of two is ill", x.whole(0), 0);
        x.ill(0, false);
        due.is("two are well", x.whole(0), 1);
    }

    private static void noOneInAnotherBooth() {
        due.of("Terms: no one is in another BOOTH");
        GlassBooths x = Scenes.ableOnes(2);
        x.session(0, 31, 0);
        due.is("nothing wanted", x.whole(0), 1);
        x.session(0, 31, 4);
        due.is("one wanted", x.whole(0), 2);
        x.session(1, 31, 31);
        due.is("the other session's WANTED do not count", x.whole(0), 2);
        x.take(0, 0);
        booths(x, 2, 5);
    }

    private static void eachFloorAndEachWanted() {
        due.of("Terms: for each of FLOORS f and each WANTED t other than f there is a WAY");
        for (int unknown = 0; unknown < 5; unknown++) {
            for (int booth = 0; booth < 5; booth++) {
                if (unknown != booth) {
                    GlassBooths x = new GlassBooths();
                    x.person(31 - (1 << unknown), 1 << booth, 1);
                    x.session(0, 31 - (1 << unknown), 1 << booth);
                    due.is("all floors but " + unknown + " into " + booth, x.whole(0), 1);
                    x.session(0, 1 << unknown, 1 << booth);
                    due.is("floor " + unknown + " into " + booth, x.whole(0), 0);
                    x.session(0, 31, 1 << booth);
                    due.is("all floors into " + booth, x.whole(0), 0);
                    x.session(0, 0, 1 << booth);
                    due.is("no floors into " + booth, x.whole(0), 1);
                }
            }
        }
        // Booth 3 has a way from floor 0, booth 4 has none: one wanted tongue without a way is too many.
        GlassBooths x = new GlassBooths();
        x.person(9, 8, 1);
        x.person(16, 16, 1);
        x.session(0, 1, 8);
        due.is("3 wanted", x.whole(0), 1);
        x.session(0, 1, 24);
        due.is("3 and 4 wanted", x.whole(0), 0);
    }

    private static void wantedOtherThanFloor() {
        due.of("Terms: each WANTED t other than f");
        for (int tongue = 0; tongue < 5; tongue++) {
            GlassBooths x = new GlassBooths();
            x.person(1 << tongue, 1 << tongue, 1);
            x.session(0, 1 << tongue, 1 << tongue);
            due.is("a floor into itself needs no way", x.whole(0), 1);
        }
    }

    private static void directAllKnow() {
        due.of("Terms: DIRECT (all in the BOOTH of t KNOW f)");
        GlassBooths x = new GlassBooths();
        x.seats(2);
        x.person(3, 2, 1);
        x.person(2, 2, 1);
        x.session(0, 1, 2);
        due.is("one of two knows it", x.whole(0), 0);
        x.person(3, 2, 1);
        due.is("two of three know it", x.whole(0), 1);
        x.take(0, 0);
        booths(x, 1, 5, 1);
    }

    private static void relayIsWanted() {
        due.of("Terms: by a RELAY r (WANTED)");
        GlassBooths x = Scenes.chain();
        x.session(0, 1, 4);
        due.is("the relay is not wanted", x.whole(0), 0);
        x.session(1, 1, 6);
        due.is("nor if the other session wants it", x.whole(0), 0);
        due.is("the relay is wanted", x.whole(1), 1);
        x.session(0, 0, 6);
        x.take(0, 0);
        x.session(0, 1, 4);
        due.is("nor if someone sits there at hand", x.whole(0), 0);
    }

    private static void relayAllKnowIt() {
        due.of("Terms: all in the BOOTH of t KNOW r");
        GlassBooths x = new GlassBooths();
        x.seats(2);
        x.person(3, 2, 1);
        x.person(3, 2, 1);
        x.person(6, 4, 1);
        x.person(4, 4, 1);
        x.session(0, 1, 6);
        due.is("one of two knows the relay", x.whole(0), 0);
        x.person(6, 4, 1);
        due.is("two know the relay", x.whole(0), 1);
    }

    private static void relayAllKnowTheFloor() {
        due.of("Terms: and all in that of r KNOW f");
        GlassBooths x = new GlassBooths();
        x.seats(2);
        x.person(3, 2, 1);
        x.person(2, 2, 1);
        x.person(6, 4, 1);
        x.person(6, 4, 1);
        x.session(0, 1, 6);
        due.is("one of two knows the floor", x.whole(0), 0);
        x.person(3, 2, 1);
        due.is("two know the floor", x.whole(0), 1);
    }

    private static void relayIsAnyOtherTongue() {
        due.of("Terms: by a RELAY r (neither f nor t)");
        for (int code = 0; code < 125; code++) {
            int floor = code % 5, relay = code / 5 % 5, booth = code / 25;
            if (floor != relay && relay != booth && booth != floor) {
                GlassBooths x = new GlassBooths();
                x.person(1 << floor | 1 << relay, 1 << relay, 1);
                x.person(1 << relay | 1 << booth, 1 << booth, 1);
                x.session(0, 1 << floor, 1 << relay | 1 << booth);
                due.is("from " + floor + " by " + relay + " into " + booth, x.take(0, 0), 2);
                x.speak(15, floor, 9);
                due.is("heard so", x.heard(booth, 15), relay);
                x.session(0, 1 << booth, 1 << relay | 1 << booth);
                due.is("no way back from " + booth, x.whole(0), 0);
            }
        }
    }

    /** Booth 4 hears floor 0 by the relay 1 and floor 2 by the relay 3; these two hear one another's floor so. */
    private static void relayForEachFloor() {
        due.of("Terms: for each of FLOORS there is a WAY: each may have another RELAY");
        GlassBooths x = new GlassBooths();
        x.person(26, 16, 1);
        x.person(11, 2, 1);
        x.person(14, 8, 1);
        x.session(0, 5, 26);
        due.is("two relays for two floors", x.whole(0), 1);
        x.session(0, 7, 26);
        due.is("and the floor 1, which all know", x.whole(0), 1);
        x.session(0, 21, 26);
        due.is("but not the floor 4", x.whole(0), 0);
    }

    private static void relayIsOneAtMost() {
        due.of("What it is: by ways of at most one relay");
        for (int length = 1; length <= 4; length++) {
            GlassBooths x = new GlassBooths();
            for (int tongue = 1; tongue <= length; tongue++) {
                x.person(1 << tongue | 1 << tongue - 1, 1 << tongue, 1);
            }
            x.session(0, 1, (2 << length) - 2);
            due.is((length - 1) + " relays", x.whole(0), length <= 2 ? 1 : 0);
        }
    }

    private static void orderOfTeams() {
        due.of("Terms: TEAMS stand in ORDER by the BOOTH of the first of PEOPLE, then of the second, and so on");
        GlassBooths x = Scenes.ableOnes(6);
        x.session(0, 31, 31);
        x.take(0, 0);
        booths(x, 0, 1, 2, 3, 4, 5);
        x.session(0, 31, 18);
        x.take(0, 0);
        booths(x, 1, 4, 5, 5, 5, 5);
        x.seats(2);
        x.take(0, 0);
        booths(x, 1, 1, 4, 4, 5, 5);
        x.session(0, 31, 7);
        x.take(0, 0);
        booths(x, 0, 0, 1, 1, 2, 2);
        x.ill(0, true);
        x.session(0, 31, 10);
        x.take(0, 0);
        booths(x, 5, 1, 1, 3, 3, 5);
        // The first one's booth weighs more than all behind it: 0 in booth 1 stands behind 0 in booth 0.
        GlassBooths y = new GlassBooths();
        y.person(31, 3, 1);
        y.person(31, 2, 1);
        y.person(31, 1, 1);
        y.session(0, 0, 3);
        due.is("three teams", y.whole(0), 3);
        y.take(0, 0);
        booths(y, 0, 1, 5);
    }

    private static void cheapestOfSeveral() {
        due.of("Terms: CHEAPEST: whose PAYS together are least; of several the first");
        int[][] pays = {{2, 2, 1}, {2, 1, 1}, {1, 1, 1}, {1, 2, 1}, {99, 98, 99}, {99, 99, 98}, {99, 99, 99}};
        int[] chosen = {2, 1, 0, 0, 1, 2, 0};
        for (int row = 0; row < pays.length; row++) {
            GlassBooths x = new GlassBooths();
            for (int pay : pays[row]) {
                x.person(1, 1, pay);
            }
            x.session(0, 0, 1);
            due.is("cheapest", x.cheapest(0), pays[row][chosen[row]]);
            due.is("take", x.take(0, 0), pays[row][chosen[row]]);
            for (int person = 0; person < 3; person++) {
                due.is("booth(" + person + ") in row " + row, x.booth(person), person == chosen[row] ? 0 : 5);
            }
        }
        // Together: the cheapest one for booth 0 would leave the dearest for booth 1.
        GlassBooths x = new GlassBooths();
        x.person(3, 3, 1);
        x.person(1, 1, 2);
        x.person(2, 2, 9);
        x.session(0, 0, 3);
        due.is("together", x.take(0, 0), 3);
        booths(x, 1, 0, 5);
        x.ill(1, true);
        due.is("together", x.take(0, 0), 10);
        booths(x, 0, 5, 1);
    }

    private static void nearestFewest() {
        due.of("Terms: NEAREST: the WHOLE one in which the fewest of PEOPLE are elsewhere than in it");
        GlassBooths x = new GlassBooths();
        x.person(3, 3, 50);
        x.person(3, 3, 1);
        x.person(3, 3, 1);
        x.session(0, 0, 1);
        x.ill(1, true);
        x.ill(2, true);
        x.take(0, 0);
        booths(x, 0, 5, 5);
        x.ill(1, false);
        x.ill(2, false);
        due.is("none elsewhere", x.nearest(0), 0);
        due.is("take, though others are cheaper", x.take(0, 1), 50);
        booths(x, 0, 5, 5);
        x.session(0, 0, 3);
        due.is("one elsewhere", x.nearest(0), 1);
        due.is("take", x.take(0, 1), 51);
        booths(x, 0, 1, 5);
        x.ill(0, true);
        due.is("two elsewhere", x.nearest(0), 2);
        due.is("take", x.take(0, 1), 2);
        booths(x, 5, 1, 0);
    }

    private static void nearestOfSeveralLeastPays() {
        due.of("Terms: NEAREST: of several the one of least PAYS");
        int[][] pays = {{3, 2, 1}, {2, 3, 1}, {1, 2, 3}, {2, 1, 2}, {99, 99, 98}};
        int[] chosen = {2, 2, 0, 1, 2};
        for (int row = 0; row < pays.length; row++) {
            GlassBooths x = new GlassBooths();
            for (int pay : pays[row]) {
                x.person(1, 1, pay);
            }
            x.session(0, 0, 1);
            due.is("nearest", x.nearest(0), 1);
            due.is("take", x.take(0, 1), pays[row][chosen[row]]);
            due.is("booth in row " + row, x.booth(chosen[row]), 0);
        }
    }

    private static void nearestOfSeveralTheFirst() {
        due.of("Terms: NEAREST: of several the first");
        GlassBooths x = Scenes.ableOnes(4);
        x.session(0, 31, 2);
        due.is("nearest", x.nearest(0), 1);
        x.take(0, 1);
        booths(x, 1, 5, 5, 5);
        x.ill(0, true);
        due.is("nearest", x.nearest(0), 2);
        x.take(0, 1);
        booths(x, 5, 1, 5, 5);
        x.ill(0, false);
        x.session(0, 31, 6);
        due.is("nearest", x.nearest(0), 1);
        x.take(0, 1);
        booths(x, 2, 1, 5, 5);
        x.session(0, 31, 14);
        due.is("nearest", x.nearest(0), 1);
        x.take(0, 1);
        booths(x, 2, 1, 3, 5);
    }

    private static void lackingFewerThanSeats() {
        due.of("Terms: LACKING: fewer than SEATS PEOPLE that are not ILL SPEAK them");
        for (int tongue = 0; tongue < 5; tongue++) {
            int bit = 1 << tongue;
            GlassBooths x = new GlassBooths();
            x.session(1, 0, bit);
            for (int speakers = 0; speakers <= 6; speakers++) {
                x.seats(1);
                due.is(speakers + " speakers, one seat", x.lacking(1), speakers < 1 ? bit : 0);
                x.seats(2);
                due.is(speakers + " speakers, two seats", x.lacking(1), speakers < 2 ? bit : 0);
                x.person(bit, bit, 1);
            }
            for (int ill = 0; ill < 6; ill++) {
                x.ill(ill, true);
                x.seats(1);
                due.is((ill + 1) + " ill, one seat", x.lacking(1), 5 - ill < 1 ? bit : 0);
                x.seats(2);
                due.is((ill + 1) + " ill, two seats", x.lacking(1), 5 - ill < 2 ? bit : 0);
            }
        }
    }

    private static void lackingOnlyWantedAndWell() {
        due.of("Terms: LACKING in a SESSION: WANTED TONGUES");
        GlassBooths x = new GlassBooths();
        x.person(31, 5, 1);
        for (int wanted = 0; wanted <= 31; wanted++) {
            x.session(0, 31, wanted);
            due.is("lacking, wanted " + wanted, x.lacking(0), wanted & ~5);
        }
        x.ill(0, true);
        due.is("all wanted, the one is ill", x.lacking(0), 31);
        due.is("the other session wants nothing", x.lacking(1), 0);
    }

    private static void neededIfThereIsATeam() {
        due.of("Terms: NEEDED, if there is a WHOLE TEAM");
        GlassBooths x = new GlassBooths();
        x.person(1, 1, 1);
        due.is("only the team with no one", x.needed(0, 0), 0);
        x.session(0, 0, 1);
        due.is("a team", x.needed(0, 0), 1);
        x.session(0, 0, 3);
        due.is("no team: one wanted tongue is lacking", x.needed(0, 0), 0);
        x.session(0, 2, 1);
        due.is("no team: no way", x.needed(0, 0), 0);
        x.session(0, 0, 1);
        x.seats(2);
        due.is("no team: too few", x.needed(0, 0), 0);
        x.seats(1);
        x.ill(0, true);
        due.is("no team: ill", x.needed(0, 0), 0);
    }

    private static void neededNoneWithout() {
        due.of("Terms: NEEDED, but none without that PERSON in a BOOTH");
        for (int people = 1; people <= 6; people++) {
            GlassBooths x = Scenes.ableOnes(people);
            for (int wanted = 1; wanted <= Math.min(5, people); wanted++) {
                x.session(1, 31, (1 << wanted) - 1);
                for (int person = 0; person < people; person++) {
                    due.is("needed(" + person + ") of " + people + " for " + wanted, x.needed(person, 1),
                            people == wanted ? 1 : 0);
                }
            }
        }
        GlassBooths x = Scenes.ableOnes(3);
        x.session(0, 31, 3);
        x.ill(1, true);
        due.is("needed(0), one other is ill", x.needed(0, 0), 1);
        due.is("needed(1), which is ill", x.needed(1, 0), 0);
        due.is("needed(2), one other is ill", x.needed(2, 0), 1);
    }
}
