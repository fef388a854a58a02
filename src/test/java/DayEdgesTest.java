/** 'Terms', THE TEAM at hand and THE DAY: a test for each sentence that names a bound, a first state, or which of several. */
public final class DayEdgesTest {
    private static final int NONE = -1, UNKNOWN = -2, OUTSIDE = -3;
    private static final int LEAST = Scenes.LEAST, GREATEST = Scenes.GREATEST;
    private static final Due due = new Due("DayEdgesTest");

    public static void main(String[] args) {
        noOneInABoothAtFirst();
        takenOnly();
        halvesBounds();
        speedBounds();
        silenceAtFirst();
        tiredness0Ahead();
        everyLookBeginsAt0();
        beginsNeitherAboveNorBelow0();
        onIsLeastTired();
        onOfSeveralTheFirst();
        onInEachBooth();
        boothOtherThanSpoken();
        heardDirect();
        heardDirectBeforeRelay();
        heardByTheLeastRelay();
        relayWhoseOnOneKnows();
        relayInAnEmptyBooth();
        relayOfARelayIsNone();
        heardThroughWhoIsOn();
        speedMoreTired();
        twoLess();
        notBelow0();
        othersRest();
        lateBySpeedDirect();
        lateBySpeedRelayed();
        lateNotHeard();
        wornAboveLimit();
        wornBehindSomeHalf();
        limitBounds();
        limitAtFirst();
        due.end();
    }

    private static void noOneInABoothAtFirst() {
        due.of("Terms: THE TEAM at hand: no one is in a BOOTH at first");
        GlassBooths x = Scenes.ableOnes(6);
        x.session(0, 31, 31);
        x.speak(0, 0, 9);
        for (int person = 0; person < 6; person++) {
            due.is("booth(" + person + ")", x.booth(person), 5);
            due.is("tired(" + person + ")", x.tired(person, 0), 0);
        }
        for (int tongue = 0; tongue < 5; tongue++) {
            due.is("on(" + tongue + ")", x.on(tongue, 0), NONE);
            due.is("heard(" + tongue + ")", x.heard(tongue, 0), NONE);
            due.is("late(" + tongue + ")", x.late(tongue), 0);
        }
        due.is("count(2)", x.count(2), 0);
        due.is("leave()", x.leave(), 0);
    }

    private static void takenOnly() {
        due.of("Terms: THE TEAM at hand: TAKEN it is the CHEAPEST or NEAREST one of a SESSION");
        GlassBooths x = Scenes.ableOnes(2);
        x.session(0, 0, 1);
        x.session(1, 0, 2);
        x.whole(0);
        x.cheapest(0);
        x.nearest(0);
        x.needed(0, 0);
        due.is("booth after looks alone", x.booth(0), 5);
        x.take(0, 0);
        x.cheapest(1);
        x.nearest(1);
        x.session(0, 0, 0);
        x.seats(2);
        due.is("booth after looks and changes", x.booth(0), 0);
        x.seats(1);
        x.take(1, 0);
        due.is("booth of the other session", x.booth(0), 1);
    }

    private static void halvesBounds() {
        due.of("Terms: THE DAY has HALVES 0 .. 15");
        GlassBooths x = Scenes.alone();
        int[] halves = {-1, 0, 1, 14, 15, 16, LEAST, GREATEST};
        for (int half : halves) {
            boolean good = half >= 0 && half <= 15;
            due.is("speak(" + half + ")", x.speak(half, 1, 3), good ? 1 : UNKNOWN);
            due.is("on(0, " + half + ")", x.on(0, half), good ? 0 : UNKNOWN);
            due.is("heard(0, " + half + ")", x.heard(0, half), good ? 0 : UNKNOWN);
            due.is("silence(" + half + ")", x.silence(half), good ? 1 : UNKNOWN);
            due.is("tired(0, " + half + ")", x.tired(0, half), good ? 0 : UNKNOWN);
        }
        for (int half = 0; half < 16; half++) {
            due.is("speak(" + half + ")", x.speak(half, 1, 3), 1);
            due.is("count(3)", x.count(3), half + 1);
            due.is("tired behind " + half, x.tired(0, half), 3 * (half + 1));
        }
        due.is("late in all sixteen", x.late(0), 16);
    }

    private static void speedBounds() {
        due.of("Terms: with a SPEED (1 .. 9)");
        GlassBooths x = Scenes.alone();
        for (int speed = -3; speed <= 13; speed++) {
            boolean good = speed >= 1 && speed <= 9;
            x.silence(0);
            due.is("speak(0, 1, " + speed + ")", x.speak(0, 1, speed), good ? 1 : OUTSIDE);
            due.is("count(3)", x.count(3), good ? 1 : 0);
            due.is("tired", x.tired(0, 0), good ? speed : 0);
        }
        due.is("the least int", x.speak(0, 1, LEAST), OUTSIDE);
        due.is("the greatest int", x.speak(0, 1, GREATEST), OUTSIDE);
    }

    private static void silenceAtFirst() {
        due.of("Terms: or none (silence, at first)");
        GlassBooths x = Scenes.alone();
        for (int half = 0; half < 16; half++) {
            due.is("heard in " + half, x.heard(0, half), NONE);
            due.is("tired behind " + half, x.tired(0, half), 0);
            due.is("silence(" + half + ")", x.silence(half), 0);
        }
        due.is("count(3)", x.count(3), 0);
        due.is("late", x.late(0), 0);
        due.is("worn", x.worn(), 0);
    }

    private static void tiredness0Ahead() {
        due.of("Terms: PEOPLE have TIREDNESS 0 ahead of HALF 0");
        GlassBooths x = Scenes.pair();
        for (int half = 0; half < 16; half++) {
            x.speak(half, 1, 9);
        }
        for (int again = 0; again < 3; again++) {
            due.is("tired(0, 15)", x.tired(0, 15), 56);
            due.is("on in 0", x.on(0, 0), 0);
            due.is("tired(0, 0)", x.tired(0, 0), 9);
            due.is("tired(1, 0)", x.tired(1, 0), 0);
            due.is("worn", x.worn(), 3);
            due.is("late", x.late(0), 32);
        }
    }

    /** 0 knows tongue 1, which its mate does not: late and worn tell whether the day begins with 0 being on. */
    private static void everyLookBeginsAt0() {
        due.of("Terms: TIREDNESS 0 ahead of HALF 0, whatever was looked at before");
        GlassBooths x = new GlassBooths();
        x.seats(2);
        x.person(7, 1, 1);
        x.person(5, 1, 1);
        x.session(0, 0, 1);
        x.take(0, 0);
        x.limit(8);
        x.speak(0, 1, 9);
        due.is("worn", x.worn(), 1);
        x.speak(15, 2, 9);
        for (int again = 0; again < 3; again++) {
            due.is("late", x.late(0), 4);
            due.is("late again", x.late(0), 4);
            due.is("worn", x.worn(), 1);
            due.is("worn again", x.worn(), 1);
            due.is("tired behind the last", x.tired(0, 15), 9);
            due.is("on in the first", x.on(0, 0), 0);
            due.is("tired behind the last", x.tired(0, 15), 9);
            due.is("heard in the first", x.heard(0, 0), 0);
            due.is("tired behind the last", x.tired(0, 15), 9);
        }
        // On a day that begins with both at 0 no one gets above 11; one more ahead of half 0 would.
        for (int half = 3; half < 16; half++) {
            x.speak(half, 2, 3);
        }
        x.limit(11);
        for (int again = 0; again < 3; again++) {
            due.is("late", x.late(0), 15);
            due.is("worn", x.worn(), 0);
        }
        x.limit(10);
        due.is("worn above 10", x.worn(), 1);
    }

    /** Only 0 knows tongue 1: it is heard again as soon as 0 has come down to 0 as its mate has. */
    private static void beginsNeitherAboveNorBelow0() {
        due.of("Terms: TIREDNESS 0 ahead of HALF 0, neither more nor less");
        GlassBooths x = new GlassBooths();
        x.seats(2);
        x.person(3, 1, 1);
        x.person(1, 1, 1);
        x.session(0, 0, 1);
        x.take(0, 0);
        x.speak(0, 1, 8);
        x.speak(5, 1, 1);
        due.is("8 is rested off behind half 4", x.tired(0, 4), 0);
        due.is("heard in 5", x.heard(0, 5), 0);
        due.is("late in 0 and 5", x.late(0), 3);
        x.silence(5);
        x.speak(0, 1, 7);
        x.speak(4, 1, 1);
        due.is("7 is not rested off behind half 3", x.tired(0, 3), 1);
        due.is("heard in 4", x.heard(0, 4), NONE);
        due.is("late in 0", x.late(0), 2);
    }

    private static void onIsLeastTired() {
        due.of("Terms: ON in a BOOTH is that one of those in it who is least TIRED");
        // Behind half 1 person 0 is at first - 2 and person 1 at second: one more, as many, one less.
        int[][] speeds = {{5, 2}, {5, 3}, {5, 4}, {9, 6}, {9, 7}, {9, 8}, {3, 9}, {9, 1}};
        for (int[] pair : speeds) {
            GlassBooths x = Scenes.pair();
            x.speak(0, 1, pair[0]);
            x.speak(1, 1, pair[1]);
            due.is("on in 0", x.on(0, 0), 0);
            due.is("on in 1", x.on(0, 1), 1);
            due.is("on in 2 after " + pair[0] + ", " + pair[1], x.on(0, 2), pair[0] - 2 <= pair[1] ? 0 : 1);
        }
    }

    private static void onOfSeveralTheFirst() {
        due.of("Terms: least TIRED; of several the first");
        GlassBooths x = Scenes.pair();
        due.is("both at 0", x.on(0, 0), 0);
        x.speak(0, 1, 4);
        x.speak(1, 1, 2);
        due.is("tired(0, 1)", x.tired(0, 1), 2);
        due.is("tired(1, 1)", x.tired(1, 1), 2);
        due.is("both at 2", x.on(0, 2), 0);
        // Numbers 3 and 5 share a booth: the first is the least number, not the first seat.
        GlassBooths y = new GlassBooths();
        for (int person = 0; person < 6; person++) {
            y.person(31, person % 2 == 1 && person > 1 ? 1 : 2, 1);
        }
        y.seats(2);
        y.session(0, 0, 1);
        y.take(0, 0);
        due.is("3 and 5", y.on(0, 0), 3);
        y.speak(0, 4, 1);
        due.is("3 is tired", y.on(0, 1), 5);
        due.is("both rested", y.on(0, 2), 3);
    }

    private static void onInEachBooth() {
        due.of("Terms: ON in a BOOTH");
        GlassBooths x = Scenes.ableOnes(5);
        x.session(0, 31, 31);
        x.take(0, 0);
        for (int tongue = 0; tongue < 5; tongue++) {
            due.is("on(" + tongue + ", 0)", x.on(tongue, 0), tongue);
            due.is("on(" + tongue + ", 15)", x.on(tongue, 15), tongue);
        }
    }

    private static void boothOtherThanSpoken() {
        due.of("Terms: With a TONGUE f spoken a BOOTH t other than f is HEARD");
        GlassBooths x = Scenes.ableOnes(5);
        x.session(0, 31, 31);
        x.take(0, 0);
        for (int spoken = 0; spoken < 5; spoken++) {
            x.speak(0, spoken, 7);
            for (int tongue = 0; tongue < 5; tongue++) {
                due.is("heard(" + tongue + ") of " + spoken, x.heard(tongue, 0), tongue == spoken ? NONE : tongue);
                due.is("tired(" + tongue + ") of " + spoken, x.tired(tongue, 0), tongue == spoken ? 0 : 7);
                due.is("late(" + tongue + ") of " + spoken, x.late(tongue), tongue == spoken ? 0 : 2);
            }
        }
    }

    private static void heardDirect() {
        due.of("Terms: HEARD DIRECT, if its ON one KNOWS f");
        for (int known = 0; known < 5; known++) {
            for (int booth = 0; booth < 5; booth++) {
                GlassBooths x = new GlassBooths();
                x.person(1 << known | 1 << booth, 1 << booth, 1);
                x.session(0, 0, 1 << booth);
                x.take(0, 0);
                for (int spoken = 0; spoken < 5; spoken++) {
                    x.speak(spoken, spoken, 1);
                    due.is("booth " + booth + " knows " + known + ", spoken " + spoken, x.heard(booth, spoken),
                            spoken == known && spoken != booth ? booth : NONE);
                }
            }
        }
    }

    private static void heardDirectBeforeRelay() {
        due.of("Terms: HEARD DIRECT; else by the RELAY");
        GlassBooths x = new GlassBooths();
        x.person(3, 1, 1);
        x.person(7, 4, 1);
        x.session(0, 0, 5);
        x.take(0, 0);
        x.speak(0, 1, 6);
        due.is("2 knows 1 and, by the relay 0, could hear it too", x.heard(2, 0), 2);
        due.is("late as one who hears direct", x.late(2), 2);
    }

    private static void heardByTheLeastRelay() {
        due.of("Terms: the RELAY that is the least TONGUE r that the ON one of t KNOWS");
        // Booth 4's one knows some of 0 .. 2 besides 4; in booths 0, 1, 2 all know 3, which is spoken.
        for (int known = 0; known < 8; known++) {
            GlassBooths x = new GlassBooths();
            x.person(16 | known, 16, 1);
            for (int relay = 0; relay < 3; relay++) {
                x.person(8 | 1 << relay, 1 << relay, 1);
            }
            x.session(0, 0, 23);
            due.is("take", x.take(0, 0), 4);
            x.speak(0, 3, 1);
            due.is("4 knows " + known, x.heard(4, 0), known == 0 ? NONE : Integer.numberOfTrailingZeros(known));
        }
    }

    private static void relayWhoseOnOneKnows() {
        due.of("Terms: the RELAY whose BOOTH has an ON one who KNOWS f");
        // Booth 0's one knows 1, 2 and 3; of those in booths 1, 2 and 3 only some know 4, which is spoken.
        for (int able = 0; able < 8; able++) {
            GlassBooths x = new GlassBooths();
            x.person(15, 1, 1);
            for (int relay = 1; relay < 4; relay++) {
                x.person(1 << relay | ((able >> relay - 1 & 1) == 1 ? 16 : 0), 1 << relay, 1);
            }
            x.session(0, 0, 15);
            due.is("take", x.take(0, 0), 4);
            x.speak(0, 4, 1);
            due.is("relays that know: " + able, x.heard(0, 0), able == 0 ? NONE : 1 + Integer.numberOfTrailingZeros(able));
        }
    }

    private static void relayInAnEmptyBooth() {
        due.of("Terms: the RELAY whose BOOTH has an ON one");
        GlassBooths x = Scenes.chain();
        x.speak(0, 0, 1);
        due.is("the relay is there", x.heard(2, 0), 1);
        x.session(0, 0, 4);
        x.take(0, 0);
        due.is("person 0 is in no booth now", x.booth(0), 5);
        due.is("the relay is not there", x.heard(2, 0), NONE);
        due.is("so it is not late", x.late(2), 0);
    }

    private static void relayOfARelayIsNone() {
        due.of("Terms: by the RELAY; without one it is not HEARD");
        GlassBooths x = new GlassBooths();
        for (int tongue = 1; tongue <= 4; tongue++) {
            x.person(1 << tongue | 1 << tongue - 1, 1 << tongue, 1);
        }
        x.session(0, 0, 30);
        x.take(0, 0);
        x.speak(0, 0, 1);
        int[] want = {NONE, 1, 1, NONE, NONE};
        int[] tired = {1, 1, 0, 0};
        for (int tongue = 0; tongue < 5; tongue++) {
            due.is("heard(" + tongue + ", 0)", x.heard(tongue, 0), want[tongue]);
        }
        for (int person = 0; person < 4; person++) {
            due.is("tired(" + person + ", 0)", x.tired(person, 0), tired[person]);
        }
    }

    private static void heardThroughWhoIsOn() {
        due.of("Terms: its ON one, not the others in the BOOTH");
        GlassBooths x = new GlassBooths();
        x.seats(2);
        x.person(1, 1, 1);
        x.person(3, 1, 1);
        x.person(5, 4, 1);
        x.person(5, 4, 1);
        x.session(0, 0, 5);
        x.take(0, 0);
        x.speak(0, 1, 4);
        due.is("the one who knows it is not on", x.heard(0, 0), NONE);
        due.is("nor can it be a relay", x.heard(2, 0), NONE);
        due.is("no one is tired: 0", x.tired(0, 0), 0);
        due.is("no one is tired: 1", x.tired(1, 0), 0);
        due.is("so the same one is on again", x.on(0, 1), 0);
    }

    private static void speedMoreTired() {
        due.of("Terms: An ON one of a BOOTH that is HEARD becomes SPEED more TIRED");
        for (int speed = 1; speed <= 9; speed++) {
            GlassBooths x = Scenes.chain();
            int sum = 0;
            for (int half = 0; half < 16; half++) {
                x.speak(half, 0, speed);
                sum += speed;
                due.is("direct, speed " + speed + " behind " + half, x.tired(0, half), sum);
                due.is("by relay, speed " + speed + " behind " + half, x.tired(1, half), sum);
            }
        }
    }

    private static void twoLess() {
        due.of("Terms: all others 2 less");
        GlassBooths x = Scenes.alone();
        x.speak(0, 1, 9);
        int[] want = {9, 7, 5, 3, 1, 0, 0};
        for (int half = 0; half < want.length; half++) {
            due.is("tired behind " + half, x.tired(0, half), want[half]);
        }
        x.speak(0, 1, 8);
        int[] even = {8, 6, 4, 2, 0, 0};
        for (int half = 0; half < even.length; half++) {
            due.is("tired behind " + half, x.tired(0, half), even[half]);
        }
    }

    private static void notBelow0() {
        due.of("Terms: 2 less, but not below 0");
        int[] rested = {0, 0, 0, 1, 2};
        for (int tired = 0; tired <= 4; tired++) {
            GlassBooths x = Scenes.alone();
            if (tired > 0) {
                x.speak(0, 1, tired);
            }
            due.is("from " + tired, x.tired(0, 1), rested[tired]);
            x.speak(2, 1, 3);
            due.is("from " + tired + ", then 3 more", x.tired(0, 2), rested[tired] + 3);
        }
        GlassBooths x = Scenes.alone();
        x.speak(15, 1, 4);
        due.is("after fifteen silent halves", x.tired(0, 15), 4);
    }

    private static void othersRest() {
        due.of("Terms: all others (also in no BOOTH) 2 less");
        GlassBooths x = Scenes.pair();
        x.person(31, 31, 1);
        x.speak(0, 1, 9);
        x.speak(1, 0, 9);
        x.speak(2, 2, 1);
        due.is("in no booth", x.tired(2, 2), 0);
        due.is("the one not on", x.tired(1, 0), 0);
        due.is("its own tongue is spoken", x.tired(0, 1), 7);
        due.is("the other is on", x.tired(1, 2), 1);
        due.is("the first goes on resting", x.tired(0, 2), 5);
        GlassBooths y = new GlassBooths();
        y.person(7, 1, 1);
        y.session(0, 0, 1);
        y.take(0, 0);
        y.speak(0, 1, 9);
        y.speak(1, 3, 9);
        due.is("on, but not heard", y.tired(0, 1), 7);
    }

    private static void lateBySpeedDirect() {
        due.of("Terms: LATE: 1 and, if SPEED is above 5, 1 more, when DIRECT");
        GlassBooths x = Scenes.chain();
        for (int speed = 1; speed <= 9; speed++) {
            x.speak(0, 0, speed);
            due.is("late, speed " + speed, x.late(1), speed <= 5 ? 1 : 2);
        }
        x.speak(15, 0, 5);
        due.is("late in two halves", x.late(1), 3);
    }

    private static void lateBySpeedRelayed() {
        due.of("Terms: LATE: by a RELAY that twice and 1 more");
        GlassBooths x = Scenes.chain();
        for (int speed = 1; speed <= 9; speed++) {
            x.speak(0, 0, speed);
            due.is("late, speed " + speed, x.late(2), speed <= 5 ? 3 : 5);
        }
        for (int half = 0; half < 16; half++) {
            x.speak(half, 0, 9);
        }
        due.is("late, all halves", x.late(2), 80);
    }

    private static void lateNotHeard() {
        due.of("Terms: LATE is a BOOTH in a HALF (not one that is not HEARD)");
        GlassBooths x = Scenes.chain();
        due.is("silence", x.late(1), 0);
        x.speak(0, 1, 9);
        due.is("its own tongue", x.late(1), 0);
        x.speak(0, 3, 9);
        due.is("no way", x.late(1), 0);
        x.speak(0, 0, 9);
        due.is("no one there: 0", x.late(0), 0);
        due.is("no one there: 3", x.late(3), 0);
        due.is("no one there: 4", x.late(4), 0);
    }

    private static void wornAboveLimit() {
        due.of("Terms: WORN OUT are those whose TIREDNESS is above LIMIT");
        for (int limit = 5; limit <= 60; limit++) {
            GlassBooths x = Scenes.alone();
            x.limit(limit);
            int half = 0;
            int left = limit;
            while (left > 0) {
                int speed = Math.min(9, left);
                x.speak(half++, 1, speed);
                left -= speed;
            }
            due.is("tired to the limit", x.tired(0, half - 1), limit);
            due.is("at " + limit, x.worn(), 0);
            x.speak(half, 1, 1);
            due.is("one above " + limit, x.worn(), 1);
            if (limit > 5) {
                x.silence(half);
                x.limit(limit - 1);
                due.is("at a limit one less than " + limit, x.worn(), 1);
            }
        }
    }

    private static void wornBehindSomeHalf() {
        due.of("Terms: WORN OUT: behind some HALF");
        for (int half = 0; half < 16; half++) {
            GlassBooths x = Scenes.alone();
            x.limit(6);
            x.speak(half, 1, 6);
            due.is("6 in half " + half, x.worn(), 0);
            x.speak(half, 1, 7);
            due.is("7 in half " + half, x.worn(), 1);
        }
        GlassBooths x = Scenes.ableOnes(5);
        x.session(0, 0, 31);
        x.take(0, 0);
        x.limit(5);
        x.speak(0, 0, 6);
        due.is("all but the first", x.worn(), 30);
        x.speak(0, 4, 6);
        due.is("all but the last", x.worn(), 15);
        x.speak(15, 0, 6);
        due.is("in one half or another", x.worn(), 31);
    }

    private static void limitBounds() {
        due.of("Terms: LIMIT (5 .. 60)");
        int now = 20;
        GlassBooths x = new GlassBooths();
        for (int v = -2; v <= 70; v++) {
            boolean good = v >= 5 && v <= 60;
            due.is("limit(" + v + ")", x.limit(v), good ? now : OUTSIDE);
            now = good ? v : now;
        }
        due.is("the least int", x.limit(LEAST), OUTSIDE);
        due.is("the greatest int", x.limit(GREATEST), OUTSIDE);
        due.is("limit(5)", x.limit(5), 60);
        due.is("limit(5)", x.limit(5), 5);
    }

    private static void limitAtFirst() {
        due.of("Terms: LIMIT, 20 at first");
        due.is("limit(5)", new GlassBooths().limit(5), 20);
        due.is("limit(60)", new GlassBooths().limit(60), 20);
        GlassBooths x = Scenes.alone();
        x.speak(0, 1, 9);
        x.speak(1, 1, 9);
        x.speak(2, 1, 2);
        due.is("tired 20", x.tired(0, 2), 20);
        due.is("20 is not above it", x.worn(), 0);
        x.speak(2, 1, 3);
        due.is("21 is above it", x.worn(), 1);
    }
}
