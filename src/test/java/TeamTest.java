/** Promises 6 to 13: whole, cheapest, nearest, take, leave, booth, lacking, needed. */
public final class TeamTest {
    private static final int NONE = -1, UNKNOWN = -2, OUTSIDE = -3, NOT = -4;
    private static final int[] NO_SESSIONS = {-1, 2, 3, Integer.MIN_VALUE, Integer.MAX_VALUE};
    private static final Due due = new Due("TeamTest");

    public static void main(String[] args) {
        unknownSessions();
        wholeCountsAllTeams();
        wholeNeedsSpeakersWhoAreWell();
        wholeByDirectWays();
        wholeByARelay();
        wholeByNoTwoRelays();
        wholeRelayMustBeWanted();
        wholeAllInTheBoothMustKnow();
        cheapestIsLeast();
        cheapestTieIsTheFirst();
        nearestHasTheFewestMoved();
        nearestTieIsTheLeastPaid();
        nearestTieIsTheFirst();
        nearestCountsThoseWhoLeave();
        takeRefusals();
        takeReplacesTheTeam();
        leaveEmptiesTheTeam();
        boothUnknown();
        lackingByBits();
        neededOnes();
        neededUnknown();
        due.end();
    }

    private static void booths(String what, GlassBooths x, int... want) {
        for (int person = 0; person < want.length; person++) {
            due.is(what + " booth(" + person + ")", x.booth(person), want[person]);
        }
    }

    private static void unknownSessions() {
        GlassBooths x = new GlassBooths();
        x.person(1, 1, 1);
        for (int session : NO_SESSIONS) {
            due.is("6 whole " + session, x.whole(session), UNKNOWN);
            due.is("7 cheapest " + session, x.cheapest(session), UNKNOWN);
            due.is("8 nearest " + session, x.nearest(session), UNKNOWN);
            due.is("9 take " + session, x.take(session, 0), UNKNOWN);
            due.is("12 lacking " + session, x.lacking(session), UNKNOWN);
            due.is("13 needed " + session, x.needed(0, session), UNKNOWN);
        }
    }

    private static void wholeCountsAllTeams() {
        GlassBooths x = new GlassBooths();
        for (int i = 0; i < 6; i++) {
            x.person(31, 31, 1);
        }
        int[] oneSeat = {1, 6, 30, 120, 360, 720};
        int[] twoSeats = {1, 15, 90, 90, 0, 0};
        for (int many = 0; many <= 5; many++) {
            x.session(1, 31, (1 << many) - 1);
            x.seats(1);
            due.is("6 whole, one seat, " + many, x.whole(1), oneSeat[many]);
            x.seats(2);
            due.is("6 whole, two seats, " + many, x.whole(1), twoSeats[many]);
        }
    }

    private static void wholeNeedsSpeakersWhoAreWell() {
        GlassBooths x = new GlassBooths();
        x.person(31, 30, 1);
        x.person(31, 1, 1);
        x.person(31, 1, 1);
        x.session(0, 0, 1);
        due.is("6 speakers", x.whole(0), 2);
        x.ill(1, true);
        due.is("6 well speakers", x.whole(0), 1);
        x.ill(2, true);
        due.is("6 none", x.whole(0), 0);
        due.is("7 none", x.cheapest(0), NONE);
        due.is("8 none", x.nearest(0), NONE);
        x.ill(1, false);
        due.is("6 well again", x.whole(0), 1);
        x.seats(2);
        due.is("6 not two", x.whole(0), 0);
    }

    private static void wholeByDirectWays() {
        GlassBooths x = new GlassBooths();
        x.person(3, 2, 1);
        x.session(0, 1, 2);
        due.is("6 direct", x.whole(0), 1);
        x.session(0, 4, 2);
        due.is("6 floor unknown to it", x.whole(0), 0);
        x.session(0, 5, 2);
        due.is("6 one of two floors", x.whole(0), 0);
        x.session(0, 2, 2);
        due.is("6 its own tongue needs no way", x.whole(0), 1);
        x.session(0, 0, 2);
        due.is("6 no floors", x.whole(0), 1);
        x.session(0, 31, 0);
        due.is("6 nothing wanted: the empty team", x.whole(0), 1);
        due.is("7 the empty team", x.cheapest(0), 0);
    }

    /** Floor 0 reaches booth 2 through booth 1. */
    private static void wholeByARelay() {
        GlassBooths x = new GlassBooths();
        x.person(3, 2, 3);
        x.person(6, 4, 4);
        x.session(0, 1, 6);
        due.is("6 by a relay", x.whole(0), 1);
        due.is("7 by a relay", x.cheapest(0), 7);
        due.is("9 by a relay", x.take(0, 0), 7);
        booths("9 by a relay", x, 1, 2);
    }

    /** 0 is known in booth 1, 1 in booth 2, 2 in booth 3: booth 3 would need two relays. */
    private static void wholeByNoTwoRelays() {
        GlassBooths x = new GlassBooths();
        x.person(3, 2, 1);
        x.person(6, 4, 1);
        x.person(12, 8, 1);
        x.session(0, 1, 6);
        due.is("6 one relay", x.whole(0), 1);
        x.session(0, 1, 14);
        due.is("6 two relays", x.whole(0), 0);
        x.session(0, 2, 14);
        due.is("6 one relay again", x.whole(0), 1);
    }

    private static void wholeRelayMustBeWanted() {
        GlassBooths x = new GlassBooths();
        x.person(3, 2, 1);
        x.person(6, 4, 1);
        x.session(0, 1, 4);
        due.is("6 the relay is not wanted", x.whole(0), 0);
        x.session(0, 1, 6);
        due.is("6 the relay is wanted", x.whole(0), 1);
    }

    private static void wholeAllInTheBoothMustKnow() {
        GlassBooths x = new GlassBooths();
        x.seats(2);
        x.person(3, 2, 1);
        x.person(2, 2, 1);
        x.session(0, 1, 2);
        due.is("6 one of two knows", x.whole(0), 0);
        x.person(3, 2, 1);
        due.is("6 two of three know", x.whole(0), 1);
        x.person(6, 4, 1);
        x.person(4, 4, 1);
        x.session(0, 1, 6);
        due.is("6 one of two knows the relay", x.whole(0), 0);
        x.person(6, 4, 1);
        due.is("6 two know the relay", x.whole(0), 1);
        x.ill(0, true);
        due.is("6 one in the relay knows the floor", x.whole(0), 0);
    }

    private static void cheapestIsLeast() {
        GlassBooths x = new GlassBooths();
        x.person(31, 3, 40);
        x.person(31, 3, 99);
        x.person(31, 1, 30);
        x.person(31, 2, 35);
        x.session(0, 0, 3);
        due.is("7 least", x.cheapest(0), 65);
        due.is("9 least", x.take(0, 0), 65);
        booths("9 least", x, 5, 5, 0, 1);
        x.ill(2, true);
        due.is("7 next", x.cheapest(0), 75);
        x.ill(3, true);
        due.is("7 both dear", x.cheapest(0), 139);
        x.ill(0, true);
        due.is("7 none", x.cheapest(0), NONE);
    }

    private static void cheapestTieIsTheFirst() {
        GlassBooths x = new GlassBooths();
        x.person(31, 31, 5);
        x.person(31, 31, 5);
        x.person(31, 31, 5);
        x.session(0, 0, 1 << 3);
        x.take(0, 0);
        booths("9 a booth stands before none", x, 3, 5, 5);
        x.session(0, 0, 1 << 3 | 1 << 1);
        x.take(0, 0);
        booths("9 the lesser booth stands first", x, 1, 3, 5);
        x.seats(2);
        x.person(31, 31, 5);
        x.take(0, 0);
        booths("9 two seats", x, 1, 1, 3, 3);
    }

    private static void nearestHasTheFewestMoved() {
        GlassBooths x = new GlassBooths();
        x.person(31, 1, 90);
        x.session(0, 0, 1);
        x.take(0, 0);
        x.person(31, 3, 1);
        x.person(31, 3, 2);
        x.session(0, 0, 3);
        due.is("7 cheapest", x.cheapest(0), 3);
        due.is("8 only one more", x.nearest(0), 1);
        due.is("9 nearest", x.take(0, 1), 91);
        booths("9 nearest", x, 0, 1, 5);
        due.is("8 now none", x.nearest(0), 0);
        due.is("9 the same", x.take(0, 1), 91);
        booths("9 the same", x, 0, 1, 5);
    }

    private static void nearestTieIsTheLeastPaid() {
        GlassBooths x = new GlassBooths();
        x.person(31, 1, 50);
        x.person(31, 1, 20);
        x.person(31, 1, 30);
        x.session(0, 0, 1);
        due.is("8 one moved", x.nearest(0), 1);
        due.is("9 of several the cheapest", x.take(0, 1), 20);
        booths("9 of several the cheapest", x, 5, 0, 5);
    }

    private static void nearestTieIsTheFirst() {
        GlassBooths x = new GlassBooths();
        x.person(31, 3, 7);
        x.person(31, 3, 7);
        x.person(31, 3, 7);
        x.session(0, 0, 2);
        due.is("9 first", x.take(0, 1), 7);
        booths("9 first", x, 1, 5, 5);
        x.session(0, 0, 3);
        due.is("8 the second joins", x.nearest(0), 1);
        due.is("9 the second joins", x.take(0, 1), 14);
        booths("9 the second joins", x, 1, 0, 5);
        x.take(0, 0);
        booths("9 but cheapest is the first of all", x, 0, 1, 5);
    }

    private static void nearestCountsThoseWhoLeave() {
        GlassBooths x = new GlassBooths();
        x.person(31, 1, 1);
        x.person(31, 2, 1);
        x.person(31, 4, 1);
        x.session(0, 0, 3);
        x.session(1, 0, 4);
        x.take(0, 0);
        due.is("8 two leave, one comes", x.nearest(1), 3);
        x.session(1, 0, 0);
        due.is("8 two leave", x.nearest(1), 2);
        x.session(1, 0, 5);
        due.is("8 one leaves, one comes", x.nearest(1), 2);
        due.is("8 the other session", x.nearest(0), 0);
        x.person(31, 7, 1);
        x.ill(0, true);
        due.is("8 an ill one is replaced", x.nearest(0), 2);
        due.is("9 an ill one is replaced", x.take(0, 1), 2);
        booths("9 an ill one is replaced", x, 5, 1, 5, 0);
    }

    private static void takeRefusals() {
        GlassBooths x = new GlassBooths();
        x.person(31, 1, 6);
        x.session(0, 0, 1);
        x.session(1, 0, 2);
        x.take(0, 0);
        for (int way : new int[] {-1, 2, 3, Integer.MIN_VALUE, Integer.MAX_VALUE}) {
            due.is("9 way " + way, x.take(0, way), OUTSIDE);
            due.is("9 outside comes before not", x.take(1, way), OUTSIDE);
            due.is("9 unknown comes first", x.take(2, way), UNKNOWN);
        }
        due.is("9 not, cheapest", x.take(1, 0), NOT);
        due.is("9 not, nearest", x.take(1, 1), NOT);
        booths("9 nothing has changed", x, 0);
    }

    private static void takeReplacesTheTeam() {
        GlassBooths x = new GlassBooths();
        x.person(31, 1, 6);
        x.person(31, 2, 8);
        x.session(0, 0, 1);
        x.session(1, 0, 2);
        due.is("9 session 0", x.take(0, 0), 6);
        booths("9 session 0", x, 0, 5);
        due.is("9 session 1", x.take(1, 0), 8);
        booths("9 session 1", x, 5, 1);
        x.session(1, 0, 0);
        due.is("9 the empty team", x.take(1, 1), 0);
        booths("9 the empty team", x, 5, 5);
    }

    private static void leaveEmptiesTheTeam() {
        GlassBooths x = new GlassBooths();
        x.seats(2);
        for (int i = 0; i < 5; i++) {
            x.person(31, 31, 1);
        }
        x.session(0, 0, 3);
        x.take(0, 0);
        due.is("10 four were", x.leave(), 4);
        booths("10 empty", x, 5, 5, 5, 5, 5);
        due.is("10 none were", x.leave(), 0);
        due.is("10 all four come", x.nearest(0), 4);
        due.is("10 no one is on", x.on(0, 0), NONE);
    }

    private static void boothUnknown() {
        GlassBooths x = new GlassBooths();
        due.is("11 none there", x.booth(0), UNKNOWN);
        x.person(1, 1, 1);
        due.is("11 no booth", x.booth(0), 5);
        for (int person : new int[] {-1, 1, 5, 6, Integer.MIN_VALUE, Integer.MAX_VALUE}) {
            due.is("11 booth " + person, x.booth(person), UNKNOWN);
        }
        x.session(1, 0, 1);
        x.take(1, 1);
        due.is("11 booth 0", x.booth(0), 0);
    }

    private static void lackingByBits() {
        GlassBooths x = new GlassBooths();
        x.session(0, 31, 31);
        x.session(1, 0, 18);
        due.is("12 all", x.lacking(0), 31);
        due.is("12 the wanted", x.lacking(1), 18);
        x.person(31, 2, 1);
        x.person(31, 3, 1);
        due.is("12 knowing is not speaking", x.lacking(0), 28);
        due.is("12 the other", x.lacking(1), 16);
        x.seats(2);
        due.is("12 two seats", x.lacking(0), 29);
        x.ill(0, true);
        due.is("12 an ill one", x.lacking(0), 31);
        x.seats(1);
        due.is("12 one seat", x.lacking(0), 28);
        x.ill(1, true);
        due.is("12 two ill ones", x.lacking(1), 18);
    }

    private static void neededOnes() {
        GlassBooths x = new GlassBooths();
        x.person(31, 1, 1);
        x.person(31, 3, 1);
        x.person(31, 4, 1);
        x.session(0, 0, 1);
        due.is("13 another can", x.needed(0, 0), 0);
        due.is("13 another can", x.needed(1, 0), 0);
        due.is("13 never in it", x.needed(2, 0), 0);
        x.session(0, 0, 3);
        due.is("13 the only one left for 0", x.needed(0, 0), 1);
        due.is("13 the only one for 1", x.needed(1, 0), 1);
        due.is("13 no use", x.needed(2, 0), 0);
        due.is("13 the other session wants none", x.needed(0, 1), 0);
        x.session(0, 0, 8);
        due.is("13 there is no whole team", x.needed(0, 0), 0);
        x.session(0, 0, 4);
        x.ill(2, true);
        due.is("13 ill, so there is none", x.needed(2, 0), 0);
        x.ill(2, false);
        due.is("13 well", x.needed(2, 0), 1);
    }

    private static void neededUnknown() {
        GlassBooths x = new GlassBooths();
        x.person(1, 1, 1);
        for (int person : new int[] {-1, 1, 6, 32, Integer.MIN_VALUE, Integer.MAX_VALUE}) {
            due.is("13 person " + person, x.needed(person, 0), UNKNOWN);
        }
    }
}
