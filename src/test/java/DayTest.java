/** Promises 14 to 22: speak, silence, limit, on, heard, tired, late, worn, count. */
public final class DayTest {
    private static final int NONE = -1, UNKNOWN = -2, OUTSIDE = -3;
    private static final int[] NO_TONGUES = {-1, 5, 6, 32, Integer.MIN_VALUE, Integer.MAX_VALUE};
    private static final int[] NO_HALVES = {-1, 16, 17, Integer.MIN_VALUE, Integer.MAX_VALUE};
    private static final Due due = new Due("DayTest");

    public static void main(String[] args) {
        unknowns();
        speakRefusals();
        speakReplaces();
        silenceAnswersWhatWas();
        limitAnswersWhatWas();
        onIsTheLeastTired();
        onIsTheFirstOfSeveral();
        onWhileSilent();
        heardDirect();
        heardByTheLeastRelay();
        heardByARelayWhoIsOn();
        heardByOneRelayOnly();
        tiredGrowsAndFalls();
        tiredOnlyIfHeard();
        lateDirectAndByRelay();
        wornBehindSomeHalf();
        dayIsThatOfTheTeamAtHand();
        sixPeopleInThreeBooths();
        countsAll();
        due.end();
    }

    private static void unknowns() {
        GlassBooths x = Scenes.alone();
        for (int tongue : NO_TONGUES) {
            due.is("14 speak tongue " + tongue, x.speak(0, tongue, 1), UNKNOWN);
            due.is("17 on tongue " + tongue, x.on(tongue, 0), UNKNOWN);
            due.is("18 heard tongue " + tongue, x.heard(tongue, 0), UNKNOWN);
            due.is("20 late tongue " + tongue, x.late(tongue), UNKNOWN);
        }
        for (int half : NO_HALVES) {
            due.is("14 speak half " + half, x.speak(half, 0, 1), UNKNOWN);
            due.is("15 silence half " + half, x.silence(half), UNKNOWN);
            due.is("17 on half " + half, x.on(0, half), UNKNOWN);
            due.is("18 heard half " + half, x.heard(0, half), UNKNOWN);
            due.is("19 tired half " + half, x.tired(0, half), UNKNOWN);
        }
        for (int person : new int[] {-1, 1, 5, 6, Integer.MIN_VALUE, Integer.MAX_VALUE}) {
            due.is("19 tired person " + person, x.tired(person, 0), UNKNOWN);
        }
        due.is("14 nothing has changed", x.count(3), 0);
    }

    private static void speakRefusals() {
        GlassBooths x = Scenes.alone();
        x.speak(0, 1, 3);
        for (int speed : new int[] {0, 10, -1, Integer.MIN_VALUE, Integer.MAX_VALUE}) {
            due.is("14 speed " + speed, x.speak(0, 2, speed), OUTSIDE);
            due.is("14 speed " + speed, x.speak(1, 2, speed), OUTSIDE);
            due.is("14 unknown half comes first", x.speak(16, 2, speed), UNKNOWN);
            due.is("14 unknown tongue comes first", x.speak(0, 5, speed), UNKNOWN);
        }
        due.is("14 nothing has changed", x.tired(0, 0), 3);
        due.is("14 nothing has changed", x.count(3), 1);
    }

    private static void speakReplaces() {
        GlassBooths x = Scenes.alone();
        due.is("14 first", x.speak(0, 4, 1), 1);
        due.is("14 tired", x.tired(0, 0), 1);
        due.is("14 again", x.speak(0, 4, 9), 1);
        due.is("14 tired", x.tired(0, 0), 9);
        due.is("14 its own tongue", x.speak(0, 0, 9), 1);
        due.is("14 not heard", x.heard(0, 0), NONE);
        due.is("14 last half", x.speak(15, 1, 2), 1);
        due.is("14 heard", x.heard(0, 15), 0);
        due.is("14 count(3)", x.count(3), 2);
    }

    private static void silenceAnswersWhatWas() {
        GlassBooths x = Scenes.alone();
        due.is("15 was silent", x.silence(15), 0);
        x.speak(15, 0, 1);
        x.speak(0, 1, 4);
        due.is("15 was not", x.silence(15), 1);
        due.is("15 is", x.silence(15), 0);
        due.is("15 the other was not", x.silence(0), 1);
        due.is("15 heard", x.heard(0, 0), NONE);
        due.is("15 tired", x.tired(0, 0), 0);
        due.is("15 late", x.late(0), 0);
    }

    private static void limitAnswersWhatWas() {
        GlassBooths x = new GlassBooths();
        due.is("16 at first", x.limit(5), 20);
        due.is("16 least", x.limit(60), 5);
        for (int v : new int[] {4, 61, 0, -1, Integer.MIN_VALUE, Integer.MAX_VALUE}) {
            due.is("16 limit " + v, x.limit(v), OUTSIDE);
        }
        due.is("16 most", x.limit(60), 60);
    }

    /** 3 for person 0; then 8 for person 1, while 0 rests; then 0 with 1, and so on. */
    private static void onIsTheLeastTired() {
        GlassBooths x = Scenes.pair();
        x.speak(0, 1, 3);
        x.speak(1, 1, 8);
        x.speak(2, 1, 2);
        x.speak(3, 1, 2);
        x.speak(4, 1, 1);
        int[] on = {0, 1, 0, 0, 1};
        int[] first = {3, 1, 3, 5, 3};
        int[] second = {0, 8, 6, 4, 5};
        for (int half = 0; half < 5; half++) {
            due.is("17 on in " + half, x.on(0, half), on[half]);
            due.is("19 tired(0) behind " + half, x.tired(0, half), first[half]);
            due.is("19 tired(1) behind " + half, x.tired(1, half), second[half]);
        }
        due.is("17 on behind all", x.on(0, 5), 0);
        due.is("17 another booth", x.on(1, 0), NONE);
    }

    private static void onIsTheFirstOfSeveral() {
        GlassBooths x = Scenes.pair();
        due.is("17 the first", x.on(0, 0), 0);
        x.speak(0, 1, 2);
        x.speak(1, 1, 2);
        due.is("17 the other", x.on(0, 1), 1);
        due.is("17 the less tired", x.on(0, 2), 0);
        due.is("17 rested", x.tired(1, 2), 0);
        due.is("17 the first again", x.on(0, 3), 0);
    }

    private static void onWhileSilent() {
        GlassBooths x = Scenes.pair();
        x.speak(0, 1, 9);
        due.is("17 silent", x.on(0, 1), 1);
        due.is("17 still", x.on(0, 5), 1);
        due.is("19 behind 4", x.tired(0, 4), 1);
        due.is("19 behind 5", x.tired(0, 5), 0);
        due.is("17 both rested", x.on(0, 6), 0);
        due.is("17 last", x.on(0, 15), 0);
    }

    private static void heardDirect() {
        GlassBooths x = new GlassBooths();
        x.person(13, 4, 1);
        x.session(0, 0, 4);
        x.take(0, 0);
        int[] want = {2, NONE, NONE, 2, NONE};
        for (int tongue = 0; tongue < 5; tongue++) {
            x.speak(tongue, tongue, 1);
            due.is("18 of " + tongue, x.heard(2, tongue), want[tongue]);
            due.is("18 no one there", x.heard(1, tongue), NONE);
        }
        due.is("18 silence", x.heard(2, 5), NONE);
    }

    /** Booths 1, 2 and 3 know 0; booth 4 knows 2 and 3 but neither 0 nor 1. */
    private static void heardByTheLeastRelay() {
        GlassBooths x = new GlassBooths();
        x.person(28, 16, 1);
        x.person(3, 2, 1);
        x.person(5, 4, 1);
        x.person(9, 8, 1);
        x.session(0, 1, 30);
        due.is("18 take", x.take(0, 0), 4);
        x.speak(0, 0, 1);
        due.is("18 direct", x.heard(1, 0), 1);
        due.is("18 direct", x.heard(2, 0), 2);
        due.is("18 direct", x.heard(3, 0), 3);
        due.is("18 the least relay that it knows", x.heard(4, 0), 2);
        x.speak(1, 1, 1);
        due.is("18 no relay knows 1", x.heard(4, 1), NONE);
        x.speak(2, 2, 1);
        due.is("18 direct before any relay", x.heard(4, 2), 4);
        due.is("18 1 knows 0 but no one is there", x.heard(1, 2), NONE);
    }

    /** In booth 1 sit 0, who knows tongue 4, and 1, who does not; booth 2 hears 4 only through 0. */
    private static void heardByARelayWhoIsOn() {
        GlassBooths x = new GlassBooths();
        x.seats(2);
        x.person(19, 2, 1);
        x.person(3, 2, 1);
        x.person(6, 4, 1);
        x.person(6, 4, 1);
        x.session(0, 1, 6);
        due.is("18 take", x.take(0, 0), 4);
        x.speak(0, 4, 6);
        x.speak(1, 4, 6);
        due.is("18 booth 1 direct", x.heard(1, 0), 1);
        due.is("18 booth 2 by 1", x.heard(2, 0), 1);
        due.is("17 then the other is on", x.on(1, 1), 1);
        due.is("18 who does not know it", x.heard(1, 1), NONE);
        due.is("18 nor does the relay", x.heard(2, 1), NONE);
        due.is("19 so it does not tire", x.tired(1, 1), 0);
        due.is("19 and the first rests", x.tired(0, 1), 4);
        due.is("19 so do those in 2", x.tired(2, 1), 4);
    }

    /** Floor 0 is known in booth 1 only; 2 knows 1, and 3 knows 2 alone. */
    private static void heardByOneRelayOnly() {
        GlassBooths x = new GlassBooths();
        x.person(3, 2, 1);
        x.person(6, 4, 1);
        x.person(12, 8, 1);
        x.session(0, 0, 14);
        x.take(0, 0);
        x.speak(0, 0, 1);
        due.is("18 direct", x.heard(1, 0), 1);
        due.is("18 one relay", x.heard(2, 0), 1);
        due.is("18 two relays are none", x.heard(3, 0), NONE);
        due.is("20 not heard is not late", x.late(3), 0);
    }

    private static void tiredGrowsAndFalls() {
        GlassBooths x = Scenes.alone();
        for (int half = 0; half < 16; half++) {
            x.speak(half, 1, 9);
        }
        due.is("19 behind 0", x.tired(0, 0), 9);
        due.is("19 behind 15", x.tired(0, 15), 144);
        x.silence(1);
        due.is("19 two less", x.tired(0, 1), 7);
        due.is("19 goes on", x.tired(0, 2), 16);
        x.speak(0, 1, 1);
        due.is("19 behind 0", x.tired(0, 0), 1);
        due.is("19 not below 0", x.tired(0, 1), 0);
        due.is("19 from 0", x.tired(0, 2), 9);
        x.person(31, 31, 1);
        due.is("19 in no booth", x.tired(1, 15), 0);
    }

    private static void tiredOnlyIfHeard() {
        GlassBooths x = new GlassBooths();
        x.person(7, 1, 1);
        x.session(0, 0, 1);
        x.take(0, 0);
        x.speak(0, 1, 7);
        x.speak(1, 0, 7);
        x.speak(2, 3, 7);
        x.speak(3, 2, 7);
        due.is("19 heard", x.tired(0, 0), 7);
        due.is("19 its own tongue", x.tired(0, 1), 5);
        due.is("19 not known", x.tired(0, 2), 3);
        due.is("19 heard again", x.tired(0, 3), 10);
    }

    /** Booth 2 hears 0 by 1. */
    private static void lateDirectAndByRelay() {
        GlassBooths x = new GlassBooths();
        x.person(3, 2, 1);
        x.person(6, 4, 1);
        x.session(0, 1, 6);
        x.take(0, 0);
        due.is("20 silence", x.late(1), 0);
        x.speak(0, 0, 5);
        due.is("20 direct, slow", x.late(1), 1);
        due.is("20 by relay, slow", x.late(2), 3);
        x.speak(0, 0, 6);
        due.is("20 direct, fast", x.late(1), 2);
        due.is("20 by relay, fast", x.late(2), 5);
        x.speak(15, 0, 1);
        due.is("20 direct, together", x.late(1), 3);
        due.is("20 by relay, together", x.late(2), 8);
        x.speak(7, 1, 9);
        due.is("20 its own tongue", x.late(1), 3);
        due.is("20 direct for the other", x.late(2), 10);
        due.is("20 no one there", x.late(0), 0);
        due.is("20 no one there", x.late(4), 0);
    }

    private static void wornBehindSomeHalf() {
        GlassBooths x = new GlassBooths();
        x.person(31, 1, 1);
        x.person(19, 2, 1);
        x.person(31, 4, 1);
        x.session(0, 0, 7);
        x.take(0, 0);
        x.speak(0, 3, 5);
        x.speak(1, 4, 1);
        due.is("21 none", x.worn(), 0);
        x.limit(5);
        due.is("21 above 5: 6 are, 1 came by relay 0", x.worn(), 7);
        x.limit(6);
        due.is("21 6 is not above 6", x.worn(), 0);
        x.limit(5);
        x.speak(1, 2, 1);
        due.is("21 not who rested", x.worn(), 3);
        x.silence(1);
        due.is("21 5 is not above 5", x.worn(), 0);
        x.speak(15, 1, 6);
        due.is("21 in the last half", x.worn(), 5);
        x.leave();
        due.is("21 no one in booths", x.worn(), 0);
    }

    private static void dayIsThatOfTheTeamAtHand() {
        GlassBooths x = new GlassBooths();
        x.person(31, 1, 1);
        x.person(31, 2, 1);
        x.session(0, 0, 1);
        x.session(1, 0, 2);
        x.speak(3, 4, 8);
        due.is("17 no team", x.on(0, 3), NONE);
        x.take(0, 0);
        due.is("17 first team", x.on(0, 3), 0);
        due.is("19 first team", x.tired(0, 3), 8);
        due.is("20 first team", x.late(0), 2);
        x.take(1, 0);
        due.is("17 second team", x.on(0, 3), NONE);
        due.is("17 second team", x.on(1, 3), 1);
        due.is("19 the first is not tired", x.tired(0, 3), 0);
        due.is("20 second team", x.late(0), 0);
        x.leave();
        due.is("17 left", x.on(1, 3), NONE);
        due.is("19 left", x.tired(1, 3), 0);
    }

    private static void sixPeopleInThreeBooths() {
        GlassBooths x = new GlassBooths();
        x.seats(2);
        for (int person = 0; person < 6; person++) {
            x.person(31, 1 << person / 2, 1);
        }
        x.session(0, 31, 7);
        due.is("9 all six", x.take(0, 0), 6);
        for (int half = 0; half < 16; half++) {
            x.speak(half, 3, 9);
        }
        for (int person = 0; person < 6; person++) {
            due.is("17 on in 14", x.on(person / 2, 14), person / 2 * 2);
            due.is("17 on in 15", x.on(person / 2, 15), person / 2 * 2 + 1);
            due.is("19 tired(" + person + ")", x.tired(person, 15), person % 2 == 0 ? 56 : 58);
        }
        x.limit(58);
        due.is("21 58 is not above 58", x.worn(), 0);
        x.limit(57);
        due.is("21 all", x.worn(), 63);
        due.is("20 late", x.late(2), 32);
        due.is("10 all six", x.leave(), 6);
    }

    private static void countsAll() {
        GlassBooths x = Scenes.pair();
        x.person(1, 1, 1);
        x.ill(2, true);
        x.speak(0, 0, 1);
        x.speak(5, 1, 1);
        x.speak(15, 2, 1);
        due.is("22 people", x.count(0), 3);
        due.is("22 ill ones", x.count(1), 1);
        due.is("22 in booths", x.count(2), 2);
        due.is("22 halves", x.count(3), 3);
        due.is("22 seats", x.count(4), 2);
        for (int what : new int[] {-1, 5, 6, Integer.MIN_VALUE, Integer.MAX_VALUE}) {
            due.is("22 count " + what, x.count(what), OUTSIDE);
        }
    }
}
