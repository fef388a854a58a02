import java.util.List;
import java.util.function.Supplier;
import java.util.function.ToIntFunction;

/**
 * "Refused, and nothing changes: UNKNOWN (no such PERSON, SESSION, TONGUE, HALF), OUTSIDE (another number is
 * not as told), NOT (not now: as told), FULL: the first of these that fits." For each call each refusal, the
 * order where several fit, and that an object answers all later calls as one that was never refused does.
 */
public final class RefusalsTest {
    private static final int UNKNOWN = -2, OUTSIDE = -3, NOT = -4, FULL = -5;
    private static final int[] NO_TONGUES = Scenes.wrongNumbers(5);
    private static final int[] NO_HALVES = Scenes.wrongNumbers(16);
    private static final int[] NO_SESSIONS = Scenes.wrongNumbers(2);
    private static final int[] NO_SEATS = {0, 3, -1, -2, 257, 65537, Scenes.LEAST, Scenes.GREATEST};
    private static final int[] NO_LIMITS = {4, 61, 0, -1, -5, -20, 256 + 20, 65536 + 20, Scenes.LEAST, Scenes.GREATEST};
    private static final int[] NO_PAYS = {0, 100, -1, -99, 256 + 9, 65536 + 9, Scenes.LEAST, Scenes.GREATEST};
    private static final int[] NO_SPEEDS = {0, 10, -1, -9, 256 + 5, 65536 + 5, Scenes.LEAST, Scenes.GREATEST};
    private static final int[] NO_WAYS = {-1, 2, 3, 256, 257, 65536, Scenes.LEAST, Scenes.LEAST + 1, Scenes.GREATEST};
    private static final Due due = new Due("RefusalsTest");

    public static void main(String[] args) {
        scenesAreAsTold();
        refusedIn("a new object", Scenes::empty, 0);
        refusedIn("two people", Scenes::few, 2);
        refusedIn("six people", Scenes::full, 6);
        due.end();
    }

    /** A refusal that finds nothing to spoil would prove nothing. */
    private static void scenesAreAsTold() {
        due.of("scenes");
        int[][] counts = {{0, 0, 0, 0, 1}, {2, 1, 2, 3, 1}, {6, 1, 4, 6, 2}};
        int[] limits = {20, 8, 6};
        int[] whole = {1, 0, 1};
        int[] wholeInOther = {1, 0, 0};
        GlassBooths[] all = {Scenes.empty(), Scenes.few(), Scenes.full()};
        for (int scene = 0; scene < 3; scene++) {
            for (int what = 0; what < 5; what++) {
                due.is("count(" + what + ") in scene " + scene, all[scene].count(what), counts[scene][what]);
            }
            due.holds("whole(0) in scene " + scene, Math.min(1, all[scene].whole(0)) == whole[scene]);
            due.is("whole(1) in scene " + scene, all[scene].whole(1), wholeInOther[scene]);
            due.is("limit in scene " + scene, all[scene].limit(20), limits[scene]);
        }
    }

    private static void refusedIn(String scene, Supplier<GlassBooths> make, int people) {
        Refused in = new Refused(scene, make);
        int[] nobody = Scenes.wrongNumbers(people);
        person(in, people);
        ill(in, nobody);
        session(in);
        seats(in);
        looksAtSessions(in);
        take(in, people);
        booth(in, nobody);
        needed(in, nobody, people);
        speak(in);
        silence(in);
        limit(in);
        looksAtTheDay(in, nobody, people);
        count(in);
    }

    private static void person(Refused in, int people) {
        due.of("2 person: OUTSIDE");
        for (int bits : Scenes.wrongBits()) {
            in.by("person(" + bits + ", 0, 1)", x -> x.person(bits, 0, 1), OUTSIDE);
            in.by("person(31, " + bits + ", 1)", x -> x.person(31, bits, 1), OUTSIDE);
            in.by("person(" + bits + ", " + bits + ", 1)", x -> x.person(bits, bits, 1), OUTSIDE);
        }
        for (int pay : NO_PAYS) {
            in.by("person(31, 31, " + pay + ")", x -> x.person(31, 31, pay), OUTSIDE);
        }
        due.of("2 person: OUTSIDE: also SPEAKS what it does not KNOW");
        for (int tongue = 0; tongue < 5; tongue++) {
            int bit = 1 << tongue;
            in.by("person(" + (31 - bit) + ", " + bit + ", 1)", x -> x.person(31 - bit, bit, 1), OUTSIDE);
        }
        if (people == 6) {
            due.of("2 person: FULL");
            in.by("person(31, 31, 1)", x -> x.person(31, 31, 1), FULL);
            in.by("person(0, 0, 99)", x -> x.person(0, 0, 99), FULL);
        }
    }

    private static void ill(Refused in, int[] nobody) {
        due.of("3 ill: UNKNOWN");
        for (int person : nobody) {
            in.by("ill(" + person + ", true)", x -> x.ill(person, true), UNKNOWN);
            in.by("ill(" + person + ", false)", x -> x.ill(person, false), UNKNOWN);
        }
    }

    private static void session(Refused in) {
        due.of("4 session: UNKNOWN; OUTSIDE");
        for (int session : NO_SESSIONS) {
            in.by("session(" + session + ", 0, 0)", x -> x.session(session, 0, 0), UNKNOWN);
            in.by("session(" + session + ", 1, 30)", x -> x.session(session, 1, 30), UNKNOWN);
            in.by("session(" + session + ", 32, 0)", x -> x.session(session, 32, 0), UNKNOWN);
            in.by("session(" + session + ", 0, -1)", x -> x.session(session, 0, -1), UNKNOWN);
        }
        for (int session = 0; session < 2; session++) {
            int good = session;
            for (int bits : Scenes.wrongBits()) {
                in.by("session(" + good + ", " + bits + ", 3)", x -> x.session(good, bits, 3), OUTSIDE);
                in.by("session(" + good + ", 3, " + bits + ")", x -> x.session(good, 3, bits), OUTSIDE);
            }
        }
    }

    private static void seats(Refused in) {
        due.of("5 seats: OUTSIDE");
        for (int n : NO_SEATS) {
            in.by("seats(" + n + ")", x -> x.seats(n), OUTSIDE);
        }
    }

    private static void looksAtSessions(Refused in) {
        for (int session : NO_SESSIONS) {
            due.of("6 whole: UNKNOWN");
            in.by("whole(" + session + ")", x -> x.whole(session), UNKNOWN);
            due.of("7 cheapest: UNKNOWN");
            in.by("cheapest(" + session + ")", x -> x.cheapest(session), UNKNOWN);
            due.of("8 nearest: UNKNOWN");
            in.by("nearest(" + session + ")", x -> x.nearest(session), UNKNOWN);
            due.of("12 lacking: UNKNOWN");
            in.by("lacking(" + session + ")", x -> x.lacking(session), UNKNOWN);
        }
    }

    private static void take(Refused in, int people) {
        due.of("9 take: UNKNOWN; OUTSIDE");
        for (int session : NO_SESSIONS) {
            in.by("take(" + session + ", 0)", x -> x.take(session, 0), UNKNOWN);
            in.by("take(" + session + ", 1)", x -> x.take(session, 1), UNKNOWN);
            in.by("take(" + session + ", 2)", x -> x.take(session, 2), UNKNOWN);
            in.by("take(" + session + ", -1)", x -> x.take(session, -1), UNKNOWN);
        }
        // In all scenes but the empty one session 1 has no whole team: OUTSIDE and NOT both fit there.
        for (int way : NO_WAYS) {
            in.by("take(0, " + way + ")", x -> x.take(0, way), OUTSIDE);
            in.by("take(1, " + way + ")", x -> x.take(1, way), OUTSIDE);
        }
        if (people > 0) {
            due.of("9 take: NOT: there is no WHOLE one");
            in.by("take(1, 0)", x -> x.take(1, 0), NOT);
            in.by("take(1, 1)", x -> x.take(1, 1), NOT);
        }
    }

    private static void booth(Refused in, int[] nobody) {
        due.of("11 booth: UNKNOWN");
        for (int person : nobody) {
            in.by("booth(" + person + ")", x -> x.booth(person), UNKNOWN);
        }
    }

    private static void needed(Refused in, int[] nobody, int people) {
        due.of("13 needed: UNKNOWN");
        for (int person : nobody) {
            in.by("needed(" + person + ", 0)", x -> x.needed(person, 0), UNKNOWN);
            in.by("needed(" + person + ", 1)", x -> x.needed(person, 1), UNKNOWN);
            in.by("needed(" + person + ", 2)", x -> x.needed(person, 2), UNKNOWN);
        }
        for (int session : NO_SESSIONS) {
            in.by("needed(0, " + session + ")", x -> x.needed(0, session), UNKNOWN);
            in.by("needed(last, " + session + ")", x -> x.needed(people - 1, session), UNKNOWN);
        }
    }

    private static void speak(Refused in) {
        due.of("14 speak: UNKNOWN; OUTSIDE");
        for (int half : NO_HALVES) {
            in.by("speak(" + half + ", 0, 5)", x -> x.speak(half, 0, 5), UNKNOWN);
            in.by("speak(" + half + ", 0, 10)", x -> x.speak(half, 0, 10), UNKNOWN);
            in.by("speak(" + half + ", 5, 0)", x -> x.speak(half, 5, 0), UNKNOWN);
        }
        for (int tongue : NO_TONGUES) {
            in.by("speak(0, " + tongue + ", 5)", x -> x.speak(0, tongue, 5), UNKNOWN);
            in.by("speak(2, " + tongue + ", 0)", x -> x.speak(2, tongue, 0), UNKNOWN);
            in.by("speak(15, " + tongue + ", 10)", x -> x.speak(15, tongue, 10), UNKNOWN);
        }
        for (int speed : NO_SPEEDS) {
            in.by("speak(0, 4, " + speed + ")", x -> x.speak(0, 4, speed), OUTSIDE);
            in.by("speak(2, 0, " + speed + ")", x -> x.speak(2, 0, speed), OUTSIDE);
            in.by("speak(15, 2, " + speed + ")", x -> x.speak(15, 2, speed), OUTSIDE);
        }
    }

    private static void silence(Refused in) {
        due.of("15 silence: UNKNOWN");
        for (int half : NO_HALVES) {
            in.by("silence(" + half + ")", x -> x.silence(half), UNKNOWN);
        }
    }

    private static void limit(Refused in) {
        due.of("16 limit: OUTSIDE");
        for (int v : NO_LIMITS) {
            in.by("limit(" + v + ")", x -> x.limit(v), OUTSIDE);
        }
    }

    private static void looksAtTheDay(Refused in, int[] nobody, int people) {
        for (int tongue : NO_TONGUES) {
            due.of("17 on: UNKNOWN");
            in.by("on(" + tongue + ", 0)", x -> x.on(tongue, 0), UNKNOWN);
            in.by("on(" + tongue + ", 16)", x -> x.on(tongue, 16), UNKNOWN);
            due.of("18 heard: UNKNOWN");
            in.by("heard(" + tongue + ", 0)", x -> x.heard(tongue, 0), UNKNOWN);
            in.by("heard(" + tongue + ", 16)", x -> x.heard(tongue, 16), UNKNOWN);
            due.of("20 late: UNKNOWN");
            in.by("late(" + tongue + ")", x -> x.late(tongue), UNKNOWN);
        }
        for (int half : NO_HALVES) {
            due.of("17 on: UNKNOWN");
            in.by("on(1, " + half + ")", x -> x.on(1, half), UNKNOWN);
            due.of("18 heard: UNKNOWN");
            in.by("heard(1, " + half + ")", x -> x.heard(1, half), UNKNOWN);
            due.of("19 tired: UNKNOWN");
            in.by("tired(0, " + half + ")", x -> x.tired(0, half), UNKNOWN);
            in.by("tired(last, " + half + ")", x -> x.tired(people - 1, half), UNKNOWN);
        }
        due.of("19 tired: UNKNOWN");
        for (int person : nobody) {
            in.by("tired(" + person + ", 0)", x -> x.tired(person, 0), UNKNOWN);
            in.by("tired(" + person + ", 15)", x -> x.tired(person, 15), UNKNOWN);
            in.by("tired(" + person + ", -1)", x -> x.tired(person, -1), UNKNOWN);
        }
    }

    private static void count(Refused in) {
        due.of("22 count: OUTSIDE");
        for (int what : Scenes.wrongNumbers(5)) {
            in.by("count(" + what + ")", x -> x.count(what), OUTSIDE);
        }
    }

    /** Refused calls in one scene. */
    private static final class Refused {
        private final String scene;
        private final Supplier<GlassBooths> make;
        private final List<String> unspoilt;

        Refused(String scene, Supplier<GlassBooths> make) {
            this.scene = scene;
            this.make = make;
            unspoilt = Probe.of(make.get());
        }

        void by(String call, ToIntFunction<GlassBooths> refused, int want) {
            GlassBooths x = make.get();
            due.is(scene + ": " + call, refused.applyAsInt(x), want);
            List<String> answers = Probe.of(x);
            for (int i = 0; i < unspoilt.size(); i++) {
                if (!answers.get(i).equals(unspoilt.get(i))) {
                    due.holds(scene + ": nothing has changed after " + call + ": " + answers.get(i)
                            + ", without it " + unspoilt.get(i), false);
                    return;
                }
            }
        }
    }
}
