import java.util.ArrayList;
import java.util.List;

/** The document's words as plainly as they can be written, without any thought of speed: for OracleTest. */
final class PlainBooths {
    private static final int NONE = -1, UNKNOWN = -2, OUTSIDE = -3, NOT = -4, FULL = -5;

    private static final class Human {
        int knows, speaks, pay, booth = 5, tiredness;
        boolean ill;
    }

    private static final class Half {
        int tongue, speed;
        int[] on = new int[5];
        int[] heard = new int[5];
        int[] tired;
    }

    private final List<Human> people = new ArrayList<>();
    private final int[][] sessions = new int[2][2];
    private final int[][] spoken = new int[16][];
    private int seats = 1;
    private int limit = 20;

    int person(int knows, int speaks, int pay) {
        boolean good = knows >= 0 && knows <= 31 && speaks >= 0 && speaks <= 31 && pay >= 1 && pay <= 99;
        for (int t = 0; good && t < 5; t++) {
            good = !in(speaks, t) || in(knows, t);
        }
        if (!good) {
            return OUTSIDE;
        }
        if (people.size() == 6) {
            return FULL;
        }
        Human human = new Human();
        human.knows = knows;
        human.speaks = speaks;
        human.pay = pay;
        people.add(human);
        return people.size() - 1;
    }

    int ill(int person, boolean is) {
        if (noPerson(person)) {
            return UNKNOWN;
        }
        boolean was = people.get(person).ill;
        people.get(person).ill = is;
        return was ? 1 : 0;
    }

    int session(int session, int floors, int wanted) {
        if (noSession(session)) {
            return UNKNOWN;
        }
        if (floors < 0 || floors > 31 || wanted < 0 || wanted > 31) {
            return OUTSIDE;
        }
        sessions[session] = new int[] {floors, wanted};
        return 1;
    }

    int seats(int n) {
        if (n != 1 && n != 2) {
            return OUTSIDE;
        }
        int was = seats;
        seats = n;
        return was;
    }

    int whole(int session) {
        return noSession(session) ? UNKNOWN : wholeTeams(session).size();
    }

    int cheapest(int session) {
        if (noSession(session)) {
            return UNKNOWN;
        }
        int[] team = best(session, 0);
        return team == null ? NONE : pays(team);
    }

    int nearest(int session) {
        if (noSession(session)) {
            return UNKNOWN;
        }
        int[] team = best(session, 1);
        return team == null ? NONE : elsewhere(team);
    }

    int take(int session, int way) {
        if (noSession(session)) {
            return UNKNOWN;
        }
        if (way != 0 && way != 1) {
            return OUTSIDE;
        }
        int[] team = best(session, way);
        if (team == null) {
            return NOT;
        }
        for (int p = 0; p < team.length; p++) {
            people.get(p).booth = team[p];
        }
        return pays(team);
    }

    int leave() {
        int were = count(2);
        for (Human human : people) {
            human.booth = 5;
        }
        return were;
    }

    int booth(int person) {
        return noPerson(person) ? UNKNOWN : people.get(person).booth;
    }

    int lacking(int session) {
        if (noSession(session)) {
            return UNKNOWN;
        }
        int bits = 0;
        for (int t = 0; t < 5; t++) {
            int speakers = 0;
            for (Human human : people) {
                speakers += !human.ill && in(human.speaks, t) ? 1 : 0;
            }
            bits += in(sessions[session][1], t) && speakers < seats ? 1 << t : 0;
        }
        return bits;
    }

    int needed(int person, int session) {
        if (noPerson(person) || noSession(session)) {
            return UNKNOWN;
        }
        List<int[]> teams = wholeTeams(session);
        for (int[] team : teams) {
            if (team[person] == 5) {
                return 0;
            }
        }
        return teams.isEmpty() ? 0 : 1;
    }

    int speak(int half, int tongue, int speed) {
        if (noHalf(half) || noTongue(tongue)) {
            return UNKNOWN;
        }
        if (speed < 1 || speed > 9) {
            return OUTSIDE;
        }
        spoken[half] = new int[] {tongue, speed};
        return 1;
    }

    int silence(int half) {
        if (noHalf(half)) {
            return UNKNOWN;
        }
        int was = spoken[half] == null ? 0 : 1;
        spoken[half] = null;
        return was;
    }

    int limit(int v) {
        if (v < 5 || v > 60) {
            return OUTSIDE;
        }
        int was = limit;
        limit = v;
        return was;
    }

    int on(int tongue, int half) {
        return noTongue(tongue) || noHalf(half) ? UNKNOWN : day()[half].on[tongue];
    }

    int heard(int tongue, int half) {
        return noTongue(tongue) || noHalf(half) ? UNKNOWN : day()[half].heard[tongue];
    }

    int tired(int person, int half) {
        return noPerson(person) || noHalf(half) ? UNKNOWN : day()[half].tired[person];
    }

    int late(int tongue) {
        if (noTongue(tongue)) {
            return UNKNOWN;
        }
        int sum = 0;
        for (Half half : day()) {
            int direct = half.speed > 5 ? 2 : 1;
            if (half.heard[tongue] != NONE) {
                sum += half.heard[tongue] == tongue ? direct : direct + direct + 1;
            }
        }
        return sum;
    }

    int worn() {
        int bits = 0;
        for (Half half : day()) {
            for (int p = 0; p < people.size(); p++) {
                bits |= half.tired[p] > limit ? 1 << p : 0;
            }
        }
        return bits;
    }

    int count(int what) {
        int ill = 0, seated = 0, loud = 0;
        for (Human human : people) {
            ill += human.ill ? 1 : 0;
            seated += human.booth < 5 ? 1 : 0;
        }
        for (int[] half : spoken) {
            loud += half == null ? 0 : 1;
        }
        int[] counts = {people.size(), ill, seated, loud, seats};
        return what < 0 || what > 4 ? OUTSIDE : counts[what];
    }

    private static boolean in(int bits, int t) {
        return (bits / (1 << t)) % 2 == 1;
    }

    private boolean noPerson(int person) {
        return person < 0 || person >= people.size();
    }

    private static boolean noSession(int session) {
        return session != 0 && session != 1;
    }

    private static boolean noTongue(int tongue) {
        return tongue < 0 || tongue > 4;
    }

    private static boolean noHalf(int half) {
        return half < 0 || half > 15;
    }

    /** Every gift of a booth or none to each, in order; those that are teams, and whole. */
    private List<int[]> wholeTeams(int session) {
        List<int[]> teams = new ArrayList<>();
        int[] team = new int[people.size()];
        while (true) {
            if (isTeam(team, sessions[session][1]) && isWhole(team, sessions[session])) {
                teams.add(team.clone());
            }
            int p = team.length - 1;
            while (p >= 0 && team[p] == 5) {
                team[p--] = 0;
            }
            if (p < 0) {
                return teams;
            }
            team[p]++;
        }
    }

    private boolean isTeam(int[] team, int wanted) {
        int[] sitting = new int[6];
        for (int p = 0; p < team.length; p++) {
            sitting[team[p]]++;
            if (team[p] < 5 && (!in(people.get(p).speaks, team[p]) || people.get(p).ill)) {
                return false;
            }
        }
        for (int t = 0; t < 5; t++) {
            if (sitting[t] != (in(wanted, t) ? seats : 0)) {
                return false;
            }
        }
        return true;
    }

    private boolean isWhole(int[] team, int[] session) {
        for (int f = 0; f < 5; f++) {
            for (int t = 0; t < 5; t++) {
                if (in(session[0], f) && in(session[1], t) && t != f && !hasWay(team, session[1], f, t)) {
                    return false;
                }
            }
        }
        return true;
    }

    private boolean hasWay(int[] team, int wanted, int f, int t) {
        if (allKnow(team, t, f)) {
            return true;
        }
        for (int r = 0; r < 5; r++) {
            if (in(wanted, r) && r != f && r != t && allKnow(team, t, r) && allKnow(team, r, f)) {
                return true;
            }
        }
        return false;
    }

    private boolean allKnow(int[] team, int booth, int tongue) {
        for (int p = 0; p < team.length; p++) {
            if (team[p] == booth && !in(people.get(p).knows, tongue)) {
                return false;
            }
        }
        return true;
    }

    private int pays(int[] team) {
        int sum = 0;
        for (int p = 0; p < team.length; p++) {
            sum += team[p] < 5 ? people.get(p).pay : 0;
        }
        return sum;
    }

    private int elsewhere(int[] team) {
        int moved = 0;
        for (int p = 0; p < team.length; p++) {
            moved += team[p] != people.get(p).booth ? 1 : 0;
        }
        return moved;
    }

    private int[] best(int session, int way) {
        int[] best = null;
        int least = Integer.MAX_VALUE;
        for (int[] team : wholeTeams(session)) {
            int weight = way == 0 ? pays(team) : elsewhere(team) * 1000 + pays(team);
            if (weight < least) {
                least = weight;
                best = team;
            }
        }
        return best;
    }

    private Half[] day() {
        Half[] day = new Half[16];
        for (Human human : people) {
            human.tiredness = 0;
        }
        for (int h = 0; h < 16; h++) {
            day[h] = play(spoken[h] == null ? NONE : spoken[h][0], spoken[h] == null ? 0 : spoken[h][1]);
        }
        return day;
    }

    private Half play(int f, int speed) {
        Half half = new Half();
        half.tongue = f;
        half.speed = speed;
        for (int t = 0; t < 5; t++) {
            half.on[t] = leastTired(t);
        }
        for (int t = 0; t < 5; t++) {
            half.heard[t] = f == NONE || t == f || half.on[t] == NONE ? NONE : wayOf(half, f, t);
        }
        half.tired = new int[people.size()];
        for (int p = 0; p < half.tired.length; p++) {
            Human human = people.get(p);
            boolean turns = human.booth < 5 && half.on[human.booth] == p && half.heard[human.booth] != NONE;
            human.tiredness = turns ? human.tiredness + speed : human.tiredness > 2 ? human.tiredness - 2 : 0;
            half.tired[p] = human.tiredness;
        }
        return half;
    }

    private int leastTired(int booth) {
        int on = NONE;
        for (int p = people.size() - 1; p >= 0; p--) {
            if (people.get(p).booth == booth
                    && (on == NONE || people.get(p).tiredness <= people.get(on).tiredness)) {
                on = p;
            }
        }
        return on;
    }

    private int wayOf(Half half, int f, int t) {
        int knows = people.get(half.on[t]).knows;
        if (in(knows, f)) {
            return t;
        }
        for (int r = 0; r < 5; r++) {
            if (r != f && r != t && in(knows, r) && half.on[r] != NONE
                    && in(people.get(half.on[r]).knows, f)) {
                return r;
            }
        }
        return NONE;
    }
}
