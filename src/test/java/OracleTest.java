import java.util.Random;

/** Long runs of mixed calls on GlassBooths and on PlainBooths: every answer must be the same. */
public final class OracleTest {
    private static final int RUNS = 400;
    private static final int CALLS = 512;
    private static final int[] ODD = {-1, -2, 5, 6, 7, 16, 31, 32, 33, 63, 99, 100, Integer.MIN_VALUE, Integer.MAX_VALUE};
    private static final Due due = new Due("OracleTest");

    private final Random random;
    private final int run;
    private final GlassBooths x = new GlassBooths();
    private final PlainBooths y = new PlainBooths();
    private int knownLeast;

    private OracleTest(int run) {
        this.run = run;
        random = new Random(run);
    }

    public static void main(String[] args) {
        for (int run = 0; run < RUNS && !due.anyWrong(); run++) {
            new OracleTest(run).play();
        }
        due.end();
    }

    private void play() {
        knownLeast = random.nextInt(3);
        int quick = random.nextInt(4);
        for (int call = 0; call < quick; call++) {
            addPerson();
        }
        for (int call = quick; call < CALLS && !due.anyWrong(); call++) {
            anyCall();
        }
    }

    private void anyCall() {
        int kind = random.nextInt(100);
        if (kind < 2) {
            addPerson();
        } else if (kind < 15) {
            change();
        } else if (kind < 30) {
            dayChange();
        } else if (kind < 40) {
            teams();
        } else if (kind < 45) {
            int session = pick(2);
            int way = pick(2);
            same("take(" + session + ", " + way + ")", x.take(session, way), y.take(session, way));
        } else if (kind < 60) {
            small();
        } else {
            dayLook();
        }
    }

    /** Mostly a number below the bound, now and then another one. */
    private int pick(int bound) {
        return random.nextInt(12) == 0 ? ODD[random.nextInt(ODD.length)] : random.nextInt(bound);
    }

    private void addPerson() {
        int knows = random.nextInt(32);
        for (int i = 0; i < knownLeast; i++) {
            knows |= random.nextInt(32);
        }
        int speaks = random.nextInt(8) == 0 ? random.nextInt(32) : knows & random.nextInt(32);
        int pay = random.nextInt(10) == 0 ? pick(101) : 1 + random.nextInt(4);
        int given = random.nextInt(12) == 0 ? pick(32) : knows;
        same("person(" + given + ", " + speaks + ", " + pay + ")",
                x.person(given, speaks, pay), y.person(given, speaks, pay));
    }

    private void change() {
        int kind = random.nextInt(10);
        if (kind < 4) {
            int person = pick(6);
            boolean is = random.nextInt(4) == 0;
            same("ill(" + person + ", " + is + ")", x.ill(person, is), y.ill(person, is));
        } else if (kind < 8) {
            int session = pick(2);
            int floors = pick(32) & (random.nextBoolean() ? -1 : random.nextInt(32));
            int wanted = pick(32) & (random.nextBoolean() ? -1 : random.nextInt(32));
            same("session(" + session + ", " + floors + ", " + wanted + ")",
                    x.session(session, floors, wanted), y.session(session, floors, wanted));
        } else if (kind < 9) {
            int n = random.nextInt(3) == 0 ? pick(3) : 1;
            same("seats(" + n + ")", x.seats(n), y.seats(n));
        } else if (random.nextInt(4) == 0) {
            same("leave()", x.leave(), y.leave());
        }
    }

    private void dayChange() {
        int half = pick(16);
        if (random.nextInt(6) == 0) {
            same("silence(" + half + ")", x.silence(half), y.silence(half));
        } else if (random.nextInt(6) == 0) {
            int v = random.nextInt(70);
            same("limit(" + v + ")", x.limit(v), y.limit(v));
        } else {
            int tongue = pick(5);
            int speed = pick(11);
            same("speak(" + half + ", " + tongue + ", " + speed + ")",
                    x.speak(half, tongue, speed), y.speak(half, tongue, speed));
        }
    }

    private void teams() {
        int session = pick(2);
        int person = pick(6);
        switch (random.nextInt(4)) {
            case 0 -> same("whole(" + session + ")", x.whole(session), y.whole(session));
            case 1 -> same("cheapest(" + session + ")", x.cheapest(session), y.cheapest(session));
            case 2 -> same("nearest(" + session + ")", x.nearest(session), y.nearest(session));
            default -> same("needed(" + person + ", " + session + ")",
                    x.needed(person, session), y.needed(person, session));
        }
    }

    private void small() {
        int session = pick(2);
        int person = pick(6);
        int what = pick(5);
        switch (random.nextInt(3)) {
            case 0 -> same("lacking(" + session + ")", x.lacking(session), y.lacking(session));
            case 1 -> same("booth(" + person + ")", x.booth(person), y.booth(person));
            default -> same("count(" + what + ")", x.count(what), y.count(what));
        }
    }

    private void dayLook() {
        int tongue = pick(5);
        int half = pick(16);
        int person = pick(6);
        switch (random.nextInt(5)) {
            case 0 -> same("on(" + tongue + ", " + half + ")", x.on(tongue, half), y.on(tongue, half));
            case 1 -> same("heard(" + tongue + ", " + half + ")", x.heard(tongue, half), y.heard(tongue, half));
            case 2 -> same("tired(" + person + ", " + half + ")", x.tired(person, half), y.tired(person, half));
            case 3 -> same("late(" + tongue + ")", x.late(tongue), y.late(tongue));
            default -> same("worn()", x.worn(), y.worn());
        }
    }

    private void same(String call, int got, int want) {
        due.is("run " + run + ": " + call, got, want);
    }
}
