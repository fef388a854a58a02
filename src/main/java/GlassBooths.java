import java.util.Arrays;

/** Voices in glass booths: people, teams for sessions, and a day of half hours. */
public final class GlassBooths {
    public static final int NONE = -1, UNKNOWN = -2, OUTSIDE = -3, NOT = -4, FULL = -5;

    private static final int TONGUES = 5;
    private static final int ALL_TONGUES = 31;
    private static final int NO_BOOTH = 5;
    private static final int MOST_PEOPLE = 6;
    private static final int MOST_PAY = 99;
    private static final int SESSIONS = 2;
    private static final int MOST_SEATS = 2;
    private static final int HALVES = 16;
    private static final int MOST_SPEED = 9;
    private static final int FAST = 5;
    private static final int REST = 2;
    private static final int LEAST_LIMIT = 5;
    private static final int MOST_LIMIT = 60;
    private static final int FIRST_LIMIT = 20;
    private static final int CHEAPEST_WAY = 0;
    private static final int NEAREST_WAY = 1;

    private final People people;
    private final Search search;
    private final Day day;
    private final int[] floorsOf;
    private final int[] wantedIn;
    private int seatsEach;
    private int wornAbove;

    public GlassBooths() {
        people = new People();
        search = new Search(people);
        day = new Day(people);
        floorsOf = new int[SESSIONS];
        wantedIn = new int[SESSIONS];
        seatsEach = 1;
        wornAbove = FIRST_LIMIT;
    }

    // ---- people, sessions

    public int person(int knows, int speaks, int pay) {
        if (!areTongues(knows) || !areTongues(speaks) || (speaks & ~knows) != 0) {
            return OUTSIDE;
        }
        if (pay < 1 || pay > MOST_PAY) {
            return OUTSIDE;
        }
        return people.add(knows, speaks, pay);
    }

    public int ill(int person, boolean is) {
        if (!people.has(person)) {
            return UNKNOWN;
        }
        int was = people.isIll(person) ? 1 : 0;
        people.setIll(person, is);
        return was;
    }

    public int session(int session, int floors, int wanted) {
        if (!isSession(session)) {
            return UNKNOWN;
        }
        if (!areTongues(floors) || !areTongues(wanted)) {
            return OUTSIDE;
        }
        floorsOf[session] = floors;
        wantedIn[session] = wanted;
        return 1;
    }

    public int seats(int n) {
        if (n < 1 || n > MOST_SEATS) {
            return OUTSIDE;
        }
        int was = seatsEach;
        seatsEach = n;
        return was;
    }

    // ---- teams

    public int whole(int session) {
        if (!isSession(session)) {
            return UNKNOWN;
        }
        searchTeams(session);
        return search.found;
    }

    public int cheapest(int session) {
        if (!isSession(session)) {
            return UNKNOWN;
        }
        searchTeams(session);
        return search.leastPay;
    }

    public int nearest(int session) {
        if (!isSession(session)) {
            return UNKNOWN;
        }
        searchTeams(session);
        return search.fewestMoved;
    }

    public int take(int session, int way) {
        if (!isSession(session)) {
            return UNKNOWN;
        }
        if (way != CHEAPEST_WAY && way != NEAREST_WAY) {
            return OUTSIDE;
        }
        searchTeams(session);
        if (search.found == 0) {
            return NOT;
        }
        if (way == CHEAPEST_WAY) {
            people.seatAs(search.cheapestTeam);
            return search.leastPay;
        }
        people.seatAs(search.nearestTeam);
        return search.payOfNearest;
    }

    public int leave() {
        int were = people.seated();
        people.unseatAll();
        return were;
    }

    public int booth(int person) {
        if (!people.has(person)) {
            return UNKNOWN;
        }
        return people.boothOf(person);
    }

    public int lacking(int session) {
        if (!isSession(session)) {
            return UNKNOWN;
        }
        int bits = 0;
        for (int tongue = 0; tongue < TONGUES; tongue++) {
            if (holds(wantedIn[session], tongue) && people.ableToTurnInto(tongue) < seatsEach) {
                bits |= 1 << tongue;
            }
        }
        return bits;
    }

    public int needed(int person, int session) {
        if (!people.has(person) || !isSession(session)) {
            return UNKNOWN;
        }
        searchTeams(session);
        return search.found > 0 && !holds(search.sparedBits, person) ? 1 : 0;
    }

    // ---- the day

    public int speak(int half, int tongue, int speed) {
        if (!isHalf(half) || !isTongue(tongue)) {
            return UNKNOWN;
        }
        if (speed < 1 || speed > MOST_SPEED) {
            return OUTSIDE;
        }
        day.setSpoken(half, tongue, speed);
        return 1;
    }

    public int silence(int half) {
        if (!isHalf(half)) {
            return UNKNOWN;
        }
        int was = day.isSilent(half) ? 0 : 1;
        day.setSilent(half);
        return was;
    }

    public int limit(int v) {
        if (v < LEAST_LIMIT || v > MOST_LIMIT) {
            return OUTSIDE;
        }
        int was = wornAbove;
        wornAbove = v;
        return was;
    }

    public int on(int tongue, int half) {
        if (!isTongue(tongue) || !isHalf(half)) {
            return UNKNOWN;
        }
        day.playThrough(half);
        return day.onIn[tongue];
    }

    public int heard(int tongue, int half) {
        if (!isTongue(tongue) || !isHalf(half)) {
            return UNKNOWN;
        }
        day.playThrough(half);
        return day.heardBy[tongue];
    }

    public int tired(int person, int half) {
        if (!people.has(person) || !isHalf(half)) {
            return UNKNOWN;
        }
        day.playThrough(half);
        return day.tiredness[person];
    }

    public int late(int tongue) {
        if (!isTongue(tongue)) {
            return UNKNOWN;
        }
        return day.lateOverall(tongue);
    }

    public int worn() {
        return day.wornBits(wornAbove);
    }

    public int count(int what) {
        switch (what) {
            case 0:
                return people.size;
            case 1:
                return Integer.bitCount(people.illBits);
            case 2:
                return people.seated();
            case 3:
                return day.spokenHalves();
            case 4:
                return seatsEach;
            default:
                return OUTSIDE;
        }
    }

    private void searchTeams(int session) {
        if (isSession(session)) {
            search.prepare(floorsOf[session], wantedIn[session], seatsEach);
            search.placeFrom(0);
        }
    }

    private static boolean isSession(int session) {
        return session >= 0 && session < SESSIONS;
    }

    private static boolean isTongue(int tongue) {
        return tongue >= 0 && tongue < TONGUES;
    }

    private static boolean isHalf(int half) {
        return half >= 0 && half < HALVES;
    }

    private static boolean areTongues(int bits) {
        return (bits & ~ALL_TONGUES) == 0;
    }

    private static boolean holds(int bits, int number) {
        return (bits >> number & 1) == 1;
    }

    /** The people there are, and where each sits in the team at hand. */
    private static final class People {
        private final int[] knownTongues = new int[MOST_PEOPLE];
        private final int[] spokenTongues = new int[MOST_PEOPLE];
        private final int[] pays = new int[MOST_PEOPLE];
        private final int[] booths = new int[MOST_PEOPLE];
        private int size;
        private int illBits;

        boolean has(int person) {
            return person >= 0 && person < size;
        }

        int add(int knows, int speaks, int pay) {
            if (size >= MOST_PEOPLE) {
                return FULL;
            }
            knownTongues[size] = knows;
            spokenTongues[size] = speaks;
            pays[size] = pay;
            booths[size] = NO_BOOTH;
            size++;
            return size - 1;
        }

        boolean isIll(int person) {
            return holds(illBits, person);
        }

        void setIll(int person, boolean is) {
            int bit = 1 << person;
            illBits = is ? illBits | bit : illBits & ~bit;
        }

        int payOf(int person) {
            return has(person) ? pays[person] : 0;
        }

        int knownBy(int person) {
            return has(person) ? knownTongues[person] : 0;
        }

        int boothOf(int person) {
            return has(person) ? booths[person] : NO_BOOTH;
        }

        boolean canTurnInto(int person, int tongue) {
            return has(person) && !isIll(person) && holds(spokenTongues[person], tongue);
        }

        int ableToTurnInto(int tongue) {
            int able = 0;
            for (int person = 0; person < size; person++) {
                if (canTurnInto(person, tongue)) {
                    able++;
                }
            }
            return able;
        }

        int seated() {
            int seated = 0;
            for (int person = 0; person < size; person++) {
                if (boothOf(person) != NO_BOOTH) {
                    seated++;
                }
            }
            return seated;
        }

        void unseatAll() {
            Arrays.fill(booths, NO_BOOTH);
        }

        void seatAs(int[] team) {
            if (team != null && team.length == MOST_PEOPLE) {
                System.arraycopy(team, 0, booths, 0, MOST_PEOPLE);
            }
        }
    }

    /** A walk through the whole teams of a session: how many, which are best, who can be spared. */
    private static final class Search {
        private final People people;
        private final int[] trial = new int[MOST_PEOPLE];
        private final int[] freeSeats = new int[TONGUES];
        private final int[] sharedKnown = new int[TONGUES];
        private final int[] cheapestTeam = new int[MOST_PEOPLE];
        private final int[] nearestTeam = new int[MOST_PEOPLE];
        private int openSeats;
        private int floors;
        private int wanted;
        private int found;
        private int sparedBits;
        private int leastPay;
        private int fewestMoved;
        private int payOfNearest;

        Search(People people) {
            this.people = people;
            Arrays.fill(trial, NO_BOOTH);
        }

        void prepare(int floors, int wanted, int seatsEach) {
            this.floors = floors;
            this.wanted = wanted;
            found = 0;
            sparedBits = 0;
            leastPay = NONE;
            fewestMoved = NONE;
            payOfNearest = NONE;
            openSeats = 0;
            for (int tongue = 0; tongue < TONGUES; tongue++) {
                freeSeats[tongue] = holds(wanted, tongue) ? seatsEach : 0;
                openSeats += freeSeats[tongue];
            }
        }

        /** Booths are tried from the least on and none last, so that the first of equals is met first. */
        private void placeFrom(int person) {
            if (openSeats > people.size - person) {
                return;
            }
            if (!people.has(person)) {
                weighIfWhole();
                return;
            }
            for (int tongue = 0; tongue < TONGUES; tongue++) {
                placeIn(tongue, person);
            }
            trial[person] = NO_BOOTH;
            placeFrom(person + 1);
        }

        private void placeIn(int tongue, int person) {
            if (freeSeats[tongue] == 0 || !people.canTurnInto(person, tongue)) {
                return;
            }
            trial[person] = tongue;
            freeSeats[tongue]--;
            openSeats--;
            placeFrom(person + 1);
            freeSeats[tongue]++;
            openSeats++;
        }

        private void weighIfWhole() {
            shareKnown();
            for (int tongue = 0; tongue < TONGUES; tongue++) {
                if (holds(wanted, tongue) && !reachesFloors(tongue)) {
                    return;
                }
            }
            weigh();
        }

        private void shareKnown() {
            Arrays.fill(sharedKnown, ALL_TONGUES);
            for (int person = 0; person < people.size; person++) {
                int tongue = trial[person];
                if (isTongue(tongue)) {
                    sharedKnown[tongue] &= people.knownBy(person);
                }
            }
        }

        /** A relay that is the floor itself need not be left out: whoever knows it has the direct way. */
        private boolean reachesFloors(int tongue) {
            int reached = sharedKnown[tongue] | 1 << tongue;
            for (int relay = 0; relay < TONGUES; relay++) {
                if (relay != tongue && holds(wanted, relay) && holds(sharedKnown[tongue], relay)) {
                    reached |= sharedKnown[relay];
                }
            }
            return (floors & ~reached) == 0;
        }

        private void weigh() {
            int pay = 0;
            int moved = 0;
            for (int person = 0; person < people.size; person++) {
                if (trial[person] == NO_BOOTH) {
                    sparedBits |= 1 << person;
                } else {
                    pay += people.payOf(person);
                }
                if (trial[person] != people.boothOf(person)) {
                    moved++;
                }
            }
            keepIfCheaper(pay);
            keepIfNearer(moved, pay);
            found++;
        }

        private void keepIfCheaper(int pay) {
            if (found == 0 || pay < leastPay) {
                leastPay = pay;
                System.arraycopy(trial, 0, cheapestTeam, 0, MOST_PEOPLE);
            }
        }

        private void keepIfNearer(int moved, int pay) {
            if (found == 0 || moved < fewestMoved || moved == fewestMoved && pay < payOfNearest) {
                fewestMoved = moved;
                payOfNearest = pay;
                System.arraycopy(trial, 0, nearestTeam, 0, MOST_PEOPLE);
            }
        }
    }

    /** What is spoken in each half, and the day played from its start with the team at hand. */
    private static final class Day {
        private final People people;
        private final int[] spoken = new int[HALVES];
        private final int[] speeds = new int[HALVES];
        private final int[] tiredness = new int[MOST_PEOPLE];
        private final int[] onIn = new int[TONGUES];
        private final int[] heardBy = new int[TONGUES];

        Day(People people) {
            this.people = people;
            Arrays.fill(spoken, NONE);
        }

        void setSpoken(int half, int tongue, int speed) {
            if (isHalf(half)) {
                spoken[half] = tongue;
                speeds[half] = speed;
            }
        }

        void setSilent(int half) {
            setSpoken(half, NONE, 0);
        }

        boolean isSilent(int half) {
            return !isHalf(half) || spoken[half] == NONE;
        }

        int spokenHalves() {
            int halves = 0;
            for (int half = 0; half < HALVES; half++) {
                if (!isSilent(half)) {
                    halves++;
                }
            }
            return halves;
        }

        /** Leaves behind who is on and heard in this half, and how tired people are behind it. */
        void playThrough(int last) {
            Arrays.fill(tiredness, 0);
            for (int half = 0; half < HALVES && half <= last; half++) {
                playHalf(half);
            }
        }

        int lateOverall(int tongue) {
            int sum = 0;
            Arrays.fill(tiredness, 0);
            for (int half = 0; half < HALVES; half++) {
                playHalf(half);
                sum += lateIn(half, tongue);
            }
            return sum;
        }

        int wornBits(int above) {
            int bits = 0;
            Arrays.fill(tiredness, 0);
            for (int half = 0; half < HALVES; half++) {
                playHalf(half);
                bits |= tiredAbove(above);
            }
            return bits;
        }

        private void playHalf(int half) {
            if (!isHalf(half)) {
                return;
            }
            chooseOn();
            for (int tongue = 0; tongue < TONGUES; tongue++) {
                heardBy[tongue] = wayFrom(spoken[half], tongue);
            }
            tire(speeds[half]);
        }

        private void chooseOn() {
            Arrays.fill(onIn, NONE);
            for (int person = 0; person < people.size; person++) {
                int tongue = people.boothOf(person);
                if (isTongue(tongue) && isFresher(person, onIn[tongue])) {
                    onIn[tongue] = person;
                }
            }
        }

        private boolean isFresher(int person, int other) {
            return !people.has(other) || tiredness[person] < tiredness[other];
        }

        private int wayFrom(int floor, int tongue) {
            if (floor == NONE || floor == tongue || onIn[tongue] == NONE) {
                return NONE;
            }
            int known = people.knownBy(onIn[tongue]);
            if (holds(known, floor)) {
                return tongue;
            }
            for (int relay = 0; relay < TONGUES; relay++) {
                if (relay != floor && relay != tongue && holds(known, relay)
                        && holds(people.knownBy(onIn[relay]), floor)) {
                    return relay;
                }
            }
            return NONE;
        }

        private void tire(int speed) {
            for (int person = 0; person < people.size; person++) {
                if (isTurning(person)) {
                    tiredness[person] += speed;
                } else {
                    tiredness[person] = Math.max(0, tiredness[person] - REST);
                }
            }
        }

        private boolean isTurning(int person) {
            int tongue = people.boothOf(person);
            return isTongue(tongue) && onIn[tongue] == person && heardBy[tongue] != NONE;
        }

        private int lateIn(int half, int tongue) {
            if (!isHalf(half) || !isTongue(tongue) || heardBy[tongue] == NONE) {
                return 0;
            }
            int direct = speeds[half] > FAST ? 2 : 1;
            return heardBy[tongue] == tongue ? direct : 2 * direct + 1;
        }

        private int tiredAbove(int above) {
            int bits = 0;
            for (int person = 0; person < people.size; person++) {
                if (tiredness[person] > above) {
                    bits |= 1 << person;
                }
            }
            return bits;
        }
    }
}
