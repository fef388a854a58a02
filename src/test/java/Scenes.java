/** Objects in states that the edge tests start from, and wrong numbers around each bound. */
final class Scenes {
    static final int LEAST = Integer.MIN_VALUE, GREATEST = Integer.MAX_VALUE;

    private Scenes() {
    }

    /**
     * Numbers that are none of 0 .. count - 1: one below, one above, the ends of int, and those that
     * would become good ones if only their low bits were looked at.
     */
    static int[] wrongNumbers(int count) {
        return new int[] {-1, count, count + 1, -count, LEAST, LEAST + 1, GREATEST, GREATEST - 1,
            32, 33, 64, 256, 257, 65536, 1 << 30, -32, -256, -65536};
    }

    /** Numbers that are no set of the tongues 0 .. 4. */
    static int[] wrongBits() {
        return new int[] {-1, -2, -31, -32, 32, 33, 63, 64, 128, 256, 65536, 1 << 30, LEAST, LEAST + 1, GREATEST};
    }

    /** So many people who know and speak all tongues and are paid 1. */
    static GlassBooths ableOnes(int many) {
        GlassBooths x = new GlassBooths();
        for (int i = 0; i < many; i++) {
            x.person(31, 31, 1);
        }
        return x;
    }

    /** One person, who knows all and sits in booth 0. */
    static GlassBooths alone() {
        GlassBooths x = new GlassBooths();
        x.person(31, 1, 1);
        x.session(0, 0, 1);
        x.take(0, 0);
        return x;
    }

    /** Two people, who know all and sit in booth 0. */
    static GlassBooths pair() {
        GlassBooths x = new GlassBooths();
        x.person(31, 1, 1);
        x.person(31, 1, 1);
        x.seats(2);
        x.session(0, 0, 1);
        x.take(0, 0);
        return x;
    }

    /** Booth 1, with person 0, hears tongue 0; booth 2, with person 1, hears it by the relay 1 alone. */
    static GlassBooths chain() {
        GlassBooths x = new GlassBooths();
        x.person(3, 2, 1);
        x.person(6, 4, 1);
        x.session(0, 1, 6);
        x.take(0, 0);
        return x;
    }

    static GlassBooths empty() {
        return new GlassBooths();
    }

    /** Two people, one of them ill, no whole team in session 1, a team at hand and a day begun. */
    static GlassBooths few() {
        GlassBooths x = chain();
        x.ill(1, true);
        x.session(1, 31, 31);
        x.speak(0, 0, 6);
        x.speak(1, 1, 5);
        x.speak(15, 0, 9);
        x.limit(8);
        return x;
    }

    /** Six people, four of them in booths, one of the others ill; a whole team in session 0 alone. */
    static GlassBooths full() {
        GlassBooths x = new GlassBooths();
        x.seats(2);
        x.person(19, 2, 7);
        x.person(3, 2, 8);
        x.person(6, 4, 9);
        x.person(7, 4, 99);
        x.person(31, 6, 20);
        x.person(31, 31, 1);
        x.session(0, 1, 6);
        x.session(1, 3, 24);
        x.take(0, 0);
        x.ill(4, true);
        for (int half = 0; half < 16; half += 3) {
            x.speak(half, half % 5, 1 + half % 9);
        }
        x.limit(6);
        return x;
    }
}
