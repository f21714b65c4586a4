/** Objects as many tests begin with, and runs of calls that many tests make. */
final class Scenes {
    /** The chains of the village, by how they are in its night 2. */
    static final int GONE = 0, MISSED = 1, SLEEPER = 2, LATE = 3, TO_COME = 4, GIVEN_UP = 5, ASKED = 6, ASKED_TO_39 = 7,
        ASKED_SEVEN = 8, GIVEN_SEVEN = 9, GIVEN_TO_39 = 10, BARRED = 11, WITHOUT_WAY = 12, BY_LETTER = 13;
    static final int VILLAGE_HOUSES = 4, VILLAGE_CHAINS = 14, VILLAGE_NIGHT = 2;

    private Scenes() {
    }

    static int chainOf(WalkHouses x, int size, int night, int... way) {
        int k = x.chain(size, night, way[0]);
        for (int i = 1; i < way.length; i++) {
            x.add(k, way[i]);
        }
        return k;
    }

    static int givenOf(WalkHouses x, int size, int night, int... way) {
        int k = chainOf(x, size, night, way);
        x.give(k);
        return k;
    }

    static void passes(WalkHouses x, int nights) {
        for (int n = 0; n < nights; n++) {
            x.pass();
        }
    }

    /** So many houses of one dorm with so many beds, with hour 12. */
    static WalkHouses houses(int many, int beds) {
        WalkHouses x = new WalkHouses();
        for (int h = 0; h < many; h++) {
            x.house(beds, 0, 0, 12);
        }
        return x;
    }

    /** Such houses, each joined with each; the stage of a and b (the lesser is a) has 10 a + b miles, 40 at most. */
    static WalkHouses joinedHouses(int many, int beds) {
        WalkHouses x = houses(many, beds);
        for (int a = 0; a < many; a++) {
            for (int b = a + 1; b < many; b++) {
                x.stage(a, b, Math.min(40, 10 * a + b));
            }
        }
        return x;
    }

    /** Such houses in a line: each is joined with the next, by 1, 2, 3 .. miles. */
    static WalkHouses lineOfHouses(int many, int beds) {
        WalkHouses x = houses(many, beds);
        for (int a = 0; a + 1 < many; a++) {
            x.stage(a, a + 1, a + 1);
        }
        return x;
    }

    /** A stage of three miles between each two of these: the first and second, the third and fourth, .. */
    static void join(WalkHouses x, int... ends) {
        for (int i = 0; i + 1 < ends.length; i += 2) {
            x.stage(ends[i], ends[i + 1], 3);
        }
    }

    static void wayIs(Check check, String what, WalkHouses x, int k, int... way) {
        check.due(what + ", how many houses", x.about(k, 2), way.length);
        for (int i = 0; i < way.length; i++) {
            check.due(what + ", house " + i, x.about(k, 10 + i), way[i]);
        }
    }

    static void laidIs(Check check, String what, WalkHouses x, int k, int... dorms) {
        for (int d = 0; d < dorms.length; d++) {
            check.due(what + ", dorm " + d, x.laid(k, 0, d), dorms[d]);
        }
    }

    /** Some of everything, in night 2: chains of every kind, letters opened and not, lines, walkers, shut nights. */
    static void village(WalkHouses x) {
        x.house(2, 3, 0, 18);
        x.house(4, 0, 0, 20);
        x.house(1, 1, 1, 17);
        x.house(0, 0, 9, 0);
        x.stage(0, 1, 12);
        x.stage(1, 2, 9);
        x.stage(0, 3, 15);
        x.chores(0, 2);
        x.chores(1, 3);
        x.list(0, 10);
        x.list(2, 50);
        x.list(2, 60);
        villageChains(x);
        x.shut(3, 30, 31);
        x.letter(BY_LETTER, 0, 0);
        x.open(0);
        x.letter(ASKED, 5, 9);
        x.letter(ASKED_TO_39, 3, 3);
        x.letter(ASKED_SEVEN, 3, 4);
        x.arrive(GONE);
        x.door(3, 2, 5);
        x.pass();
        x.arrive(SLEEPER);
        x.pass();
        x.arrive(SLEEPER);
        x.door(1, 1, 3);
    }

    private static void villageChains(WalkHouses x) {
        givenOf(x, 2, 0, 0);
        chainOf(x, 1, 0, 0, 1);
        givenOf(x, 2, 1, 0, 1, 0);
        givenOf(x, 3, 2, 3, 0, 1);
        givenOf(x, 2, 5, 0, 1, 2);
        x.giveUp(givenOf(x, 1, 9, 3));
        chainOf(x, 2, 6, 0, 1);
        chainOf(x, 1, 35, 0, 0, 0, 0, 0);
        chainOf(x, 1, 10, 3, 3, 3, 3, 3, 3, 3);
        givenOf(x, 1, 20, 3, 3, 3, 3, 3, 3, 3);
        givenOf(x, 1, 38, 3, 3);
        chainOf(x, 4, 12, 1, 2, 1);
        chainOf(x, 1, 14, 1, 3);
        chainOf(x, 1, 8, 3);
    }

    /** The village with 12 houses. */
    static void fullOfHouses(WalkHouses x) {
        village(x);
        for (int h = VILLAGE_HOUSES; h < 12; h++) {
            x.house(1, 2, 3, h);
        }
    }

    /** The village with 12 houses and 40 stages; none leads to houses 10 and 11. */
    static void fullOfStages(WalkHouses x) {
        fullOfHouses(x);
        int told = 3;
        for (int b = 4; b < 12; b++) {
            for (int a = 0; a < b && told < 40; a++) {
                x.stage(a, b, 1 + told);
                told++;
            }
        }
    }

    static void fullOfChains(WalkHouses x) {
        village(x);
        for (int k = VILLAGE_CHAINS; k < 40; k++) {
            x.chain(1, 17, 3);
        }
    }

    static void fullOfLetters(WalkHouses x) {
        village(x);
        for (int n = 4; n < 40; n++) {
            x.letter(BARRED, 20, 20 + n);
        }
    }

    static void fullOfLines(WalkHouses x) {
        village(x);
        for (int n = 3; n < 20; n++) {
            x.list(n, 70);
        }
    }

    /** The village in its last night. */
    static void lastNight(WalkHouses x) {
        village(x);
        passes(x, 39 - VILLAGE_NIGHT);
    }

    /** The village with house 2 shut now. */
    static void shutNow(WalkHouses x) {
        village(x);
        x.shut(2, 3, 3);
        x.pass();
    }
}
