/** Sentences of the Terms about laying people in dorms, for chains and for walkers. */
public final class LayingBoundsTest {
    private static final int NONE = WalkHouses.NONE;
    private static final Check check = new Check();

    private static void due(String what, long got, long want) {
        check.due(what, got, want);
    }

    public static void main(String[] args) {
        likeDorms();
        unlikeDorms();
        dormsThatItHasNot();
        byWhatIsFree();
        byWhatIsFreeAgain();
        walkers();
        inEachNight();
        check.end();
    }

    /** One chain of n in a new house with these beds; where its people lie. */
    private static void lie(int[] beds, int n, int... dorms) {
        WalkHouses x = new WalkHouses();
        x.house(beds[0], beds[1], beds[2], 0);
        int k = x.chain(n, 3, 0);
        due(n + " are given", x.give(k), NONE);
        Scenes.laidIs(check, n + " people", x, k, dorms);
        for (int d = 0; d < 3; d++) {
            due(n + " people, free in dorm " + d, x.free(0, d, 3), beds[d] - dorms[d]);
        }
    }

    private static void tooMany(int[] beds, int n) {
        WalkHouses x = new WalkHouses();
        x.house(beds[0], beds[1], beds[2], 0);
        due(n + " are too many", x.give(x.chain(n, 3, 0)), 0);
        due("nobody is laid", x.free(0, NONE, 3), beds[0] + beds[1] + beds[2]);
    }

    private static void likeDorms() {
        check.sentence("of like ones the least as bits: its DORMS are filled, the least number first");
        int[] beds = {3, 3, 3};
        lie(beds, 1, 1, 0, 0);
        lie(beds, 3, 3, 0, 0);
        lie(beds, 4, 3, 1, 0);
        lie(beds, 6, 3, 3, 0);
        lie(beds, 7, 3, 3, 1);
        lie(beds, 9, 3, 3, 3);
        tooMany(beds, 10);
    }

    private static void unlikeDorms() {
        check.sentence("sets of its DORMS whose free BEDS are n or more together, those with the fewest DORMS");
        int[] rising = {2, 3, 4};
        lie(rising, 2, 2, 0, 0);
        lie(rising, 3, 0, 3, 0);
        lie(rising, 4, 0, 0, 4);
        lie(rising, 5, 2, 3, 0);
        lie(rising, 6, 2, 0, 4);
        lie(rising, 7, 0, 3, 4);
        lie(rising, 8, 2, 3, 3);
        lie(rising, 9, 2, 3, 4);
        tooMany(rising, 10);
        int[] falling = {4, 3, 2};
        lie(falling, 4, 4, 0, 0);
        lie(falling, 5, 4, 1, 0);
        lie(falling, 7, 4, 3, 0);
        lie(falling, 8, 4, 3, 1);
        int[] great = {9, 9, 9};
        lie(great, 9, 9, 0, 0);
        lie(great, 10, 9, 1, 0);
        lie(great, 12, 9, 3, 0);
    }

    private static void dormsThatItHasNot() {
        check.sentence("sets of its DORMS (0: it has not that one)");
        lie(new int[] {0, 4, 2}, 4, 0, 4, 0);
        lie(new int[] {0, 4, 2}, 5, 0, 4, 1);
        lie(new int[] {0, 2, 4}, 3, 0, 0, 3);
        lie(new int[] {1, 0, 9}, 10, 1, 0, 9);
        lie(new int[] {0, 0, 1}, 1, 0, 0, 1);
        tooMany(new int[] {0, 0, 1}, 2);
        tooMany(new int[] {1, 0, 9}, 11);
    }

    private static void byWhatIsFree() {
        check.sentence("whose free BEDS are n or more: free ones, not all");
        WalkHouses x = new WalkHouses();
        x.house(4, 4, 4, 0);
        Scenes.laidIs(check, "three", x, Scenes.givenOf(x, 3, 0, 0), 3, 0, 0);
        Scenes.laidIs(check, "two more go beside", x, Scenes.givenOf(x, 2, 0, 0), 0, 2, 0);
        Scenes.laidIs(check, "one more fits", x, Scenes.givenOf(x, 1, 0, 0), 1, 0, 0);
        Scenes.laidIs(check, "five in two dorms", x, Scenes.givenOf(x, 5, 0, 0), 0, 2, 3);
        due("one bed is left", x.free(0, NONE, 0), 1);
        due("in dorm 2", x.free(0, 2, 0), 1);
        Scenes.laidIs(check, "the last one", x, Scenes.givenOf(x, 1, 0, 0), 0, 0, 1);
        due("full", x.give(x.chain(1, 0, 0)), 0);
    }

    private static void byWhatIsFreeAgain() {
        check.sentence("BEDS are free again, when who lay there is out of them");
        WalkHouses x = new WalkHouses();
        x.house(2, 2, 2, 0);
        int first = Scenes.givenOf(x, 2, 3, 0);
        Scenes.givenOf(x, 2, 3, 0);
        due("it is given up", x.giveUp(first), 0);
        Scenes.laidIs(check, "it lies nowhere", x, first, 0, 0, 0);
        Scenes.laidIs(check, "its dorm is the least again", x, Scenes.givenOf(x, 1, 3, 0), 1, 0, 0);
        Scenes.laidIs(check, "three in the rest", x, Scenes.givenOf(x, 3, 3, 0), 1, 0, 2);
    }

    private static void walkers() {
        check.sentence("At the DOOR n walkers: they are LAID");
        WalkHouses x = new WalkHouses();
        x.house(2, 3, 4, 0);
        due("three", x.door(0, 3, 0), 0);
        due("in the one dorm that is enough", x.free(0, 1, 0), 0);
        due("five", x.door(0, 5, 0), 0);
        due("dorm 0 is filled first", x.free(0, 0, 0), 0);
        due("dorm 2 has what is left", x.free(0, 2, 0), 1);
        due("the last", x.door(0, 1, 0), 0);
        due("full", x.free(0, NONE, 0), 0);
    }

    private static void inEachNight() {
        check.sentence("LAYING n people in a HOUSE for a NIGHT: each NIGHT by its own free BEDS");
        WalkHouses x = new WalkHouses();
        x.house(2, 3, 0, 0);
        Scenes.givenOf(x, 1, 2, 0);
        int k = Scenes.givenOf(x, 2, 1, 0, 0, 0);
        due("night 1, dorm 0", x.laid(k, 0, 0), 2);
        due("night 2, dorm 0", x.laid(k, 1, 0), 0);
        due("night 2, dorm 1", x.laid(k, 1, 1), 2);
        due("night 3, dorm 0", x.laid(k, 2, 0), 2);
    }
}
