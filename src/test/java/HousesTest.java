/** Promises 1 to 7. */
public final class HousesTest {
    private static final int NONE = WalkHouses.NONE, BAD = WalkHouses.BAD, NOT = WalkHouses.NOT, FULL = WalkHouses.FULL;
    private static final Check check = new Check();

    private static void due(String what, long got, long want) {
        check.due(what, got, want);
    }

    public static void main(String[] args) {
        newObject();
        house();
        stage();
        chores();
        free();
        isShut();
        shutArguments();
        shutLeadsRound();
        shutRefusesAndCuts();
        shutKeepsTheHouseOfNow();
        shutOneAfterAnother();
        check.end();
    }

    private static void newObject() {
        WalkHouses x = new WalkHouses();
        long h = 17;
        for (int what = 0; what <= 9; what++) {
            due("1 count " + what, x.count(what), 0);
            h = 31 * h;
        }
        due("1 digest of a new object", x.digest(), h);
    }

    private static void house() {
        WalkHouses x = new WalkHouses();
        due("2 no beds", x.house(0, 0, 0, 0), BAD);
        due("2 beds below 0", x.house(-1, 2, 3, 0), BAD);
        due("2 beds b below 0", x.house(1, -1, 3, 0), BAD);
        due("2 beds c below 0", x.house(1, 1, -1, 0), BAD);
        due("2 beds a above 9", x.house(10, 0, 0, 0), BAD);
        due("2 beds b above 9", x.house(0, 10, 0, 0), BAD);
        due("2 beds c above 9", x.house(0, 0, 10, 0), BAD);
        due("2 hour below 0", x.house(1, 0, 0, -1), BAD);
        due("2 hour above 23", x.house(1, 0, 0, 24), BAD);
        due("2 wrap-around", x.house(Integer.MAX_VALUE, Integer.MAX_VALUE, 3, 0), BAD);
        for (int k = 0; k < 12; k++) {
            due("2 number", x.house(k % 3 == 0 ? 9 : 0, k % 3 == 1 ? 9 : 0, k % 3 == 2 ? 9 : 0, k * 2), k);
        }
        due("2 BAD goes ahead of FULL", x.house(0, 0, 0, 0), BAD);
        due("2 full", x.house(1, 1, 1, 1), FULL);
        due("2 count", x.count(0), 12);
    }

    private static void stage() {
        WalkHouses x = new WalkHouses();
        for (int k = 0; k < 12; k++) {
            x.house(1, 0, 0, 0);
        }
        due("3 from a house to itself", x.stage(3, 3, 5), BAD);
        due("3 no such house", x.stage(0, 12, 5), BAD);
        due("3 no such house", x.stage(-1, 0, 5), BAD);
        due("3 no miles", x.stage(0, 1, 0), BAD);
        due("3 too many miles", x.stage(0, 1, 41), BAD);
        int told = 0;
        for (int a = 0; a < 12 && told < 40; a++) {
            for (int b = a + 1; b < 12 && told < 40; b++) {
                told++;
                due("3 how many", x.stage(b, a, 1 + told % 40), told);
                due("3 it is there", x.stage(a, b, 7), BAD);
            }
        }
        due("3 BAD goes ahead of FULL", x.stage(0, 1, 1), BAD);
        due("3 full", x.stage(10, 11, 1), FULL);
        due("3 count", x.count(1), 40);
    }

    private static void chores() {
        WalkHouses x = new WalkHouses();
        due("4 no such house", x.chores(0, 1), BAD);
        x.house(1, 0, 0, 0);
        due("4 none at first", x.chores(0, 9), 0);
        due("4 what they were", x.chores(0, 0), 9);
        due("4 below 0", x.chores(0, -1), BAD);
        due("4 above 9", x.chores(0, 10), BAD);
        due("4 no such house", x.chores(-1, 1), BAD);
        due("4 refusals change nothing", x.chores(0, 3), 0);
    }

    private static void free() {
        WalkHouses x = new WalkHouses();
        due("5 no such house", x.free(0, 0, 0), BAD);
        x.house(2, 0, 5, 0);
        due("5 dorm 0", x.free(0, 0, 0), 2);
        due("5 a dorm that it has not", x.free(0, 1, 0), 0);
        due("5 dorm 2", x.free(0, 2, 39), 5);
        due("5 all", x.free(0, NONE, 39), 7);
        due("5 dorm 3", x.free(0, 3, 0), BAD);
        due("5 dorm -2", x.free(0, -2, 0), BAD);
        due("5 night -1", x.free(0, 0, -1), BAD);
        due("5 night 40", x.free(0, 0, 40), BAD);
        due("5 house 1", x.free(1, 0, 0), BAD);
        x.chain(3, 1, 0);
        x.give(0);
        due("5 the set with fewest dorms", x.free(0, 0, 1), 2);
        due("5 laid in dorm 2", x.free(0, 2, 1), 2);
        due("5 another night", x.free(0, 2, 2), 5);
        x.pass();
        x.pass();
        due("5 a night that passed", x.free(0, 2, 1), 2);
    }

    private static void isShut() {
        WalkHouses x = new WalkHouses();
        due("6 no such house", x.isShut(0, 0), BAD);
        x.house(1, 0, 0, 0);
        x.house(1, 0, 0, 0);
        due("6 none at first", x.isShut(0, 5), 0);
        x.shut(0, 5, 7);
        due("6 ahead", x.isShut(0, 4), 0);
        due("6 first", x.isShut(0, 5), 1);
        due("6 last", x.isShut(0, 7), 1);
        due("6 behind", x.isShut(0, 8), 0);
        due("6 another house", x.isShut(1, 6), 0);
        due("6 night -1", x.isShut(0, -1), BAD);
        due("6 night 40", x.isShut(0, 40), BAD);
        due("6 house -1", x.isShut(-1, 0), BAD);
    }

    private static void shutArguments() {
        WalkHouses x = new WalkHouses();
        x.house(1, 0, 0, 0);
        due("7 no such house", x.shut(1, 1, 1), BAD);
        due("7 the night now", x.shut(0, 0, 1), BAD);
        due("7 above 39", x.shut(0, 1, 40), BAD);
        due("7 from above to", x.shut(0, 3, 2), BAD);
        due("7 below 0", x.shut(0, -1, 2), BAD);
        due("7 refusals shut nothing", x.isShut(0, 1), 0);
        due("7 to the last night", x.shut(0, 39, 39), 0);
        due("7 again", x.shut(0, 39, 39), 0);
        x.pass();
        due("7 the night now", x.shut(0, 1, 1), BAD);
        due("7 behind now", x.shut(0, 2, 2), 0);
    }

    private static void wayIs(String what, WalkHouses x, int k, int... way) {
        Scenes.wayIs(check, what, x, k, way);
    }

    private static void shutLeadsRound() {
        WalkHouses x = Scenes.joinedHouses(5, 4);
        int given = Scenes.chainOf(x, 2, 1, 4, 3, 2);
        int asked = Scenes.chainOf(x, 2, 1, 4, 3, 2);
        x.give(given);
        due("7 it was laid elsewhere in these", x.shut(3, 3, 5), 0);
        wayIs("7 untouched", x, given, 4, 3, 2);
        due("7 led round", x.shut(3, 2, 2), 0);
        wayIs("7 the lesser house", x, given, 4, 0, 2);
        wayIs("7 asked ones stay", x, asked, 4, 3, 2);
        due("7 its old beds are free", x.free(3, NONE, 2), 4);
        due("7 its new beds", x.free(0, NONE, 2), 2);
        due("7 its first beds", x.free(4, NONE, 1), 2);
        due("7 its last beds", x.free(2, NONE, 3), 2);
        due("7 given", x.about(given, 3), 1);
    }

    private static void shutRefusesAndCuts() {
        WalkHouses x = Scenes.joinedHouses(5, 4);
        int later = Scenes.chainOf(x, 2, 1, 0, 1, 2);
        int begun = Scenes.chainOf(x, 1, 0, 3, 3, 1, 2);
        x.give(later);
        x.give(begun);
        due("7 both find none", x.shut(2, 3, 3), 2);
        due("7 the first sort is refused", x.about(later, 3), 2);
        wayIs("7 it keeps its houses", x, later, 0, 1, 2);
        due("7 out of its beds", x.free(0, NONE, 1), 4);
        due("7 the others stay given", x.about(begun, 3), 1);
        wayIs("7 and end now", x, begun, 3);
        due("7 laid now", x.about(begun, 20), 1);
        due("7 no night more", x.about(begun, 21), BAD);
        due("7 beds now", x.free(3, NONE, 0), 3);
        due("7 beds then", x.free(3, NONE, 1), 4);
        due("7 its first house shut", x.shut(2, 2, 2), 0);
        x.pass();
        due("7 it is gone", x.about(begun, 3), 3);
    }

    private static void shutKeepsTheHouseOfNow() {
        WalkHouses x = Scenes.joinedHouses(5, 2);
        int k = Scenes.chainOf(x, 2, 0, 0, 1, 2);
        x.give(k);
        due("7 its beds of now are lost", x.door(0, 2, 12), 1);
        due("7 led round, though not open now", x.shut(1, 1, 1), 0);
        wayIs("7 house of now stays", x, k, 0, 0, 2);
        due("7 not laid anew", x.about(k, 20), 0);
        due("7 laid then", x.about(k, 21), 1);
        due("7 walkers keep their beds", x.free(0, NONE, 0), 0);
        // the last house must be reached from the house of now
        WalkHouses y = new WalkHouses();
        for (int h = 0; h < 3; h++) {
            y.house(5, 0, 0, 12);
        }
        y.stage(0, 1, 3);
        y.stage(1, 2, 4);
        int line = Scenes.chainOf(y, 1, 0, 0, 1, 2);
        y.give(line);
        due("7 no stage round", y.shut(1, 1, 1), 1);
        wayIs("7 cut", y, line, 0);
    }

    private static void shutOneAfterAnother() {
        WalkHouses x = Scenes.joinedHouses(5, 3);
        int a = Scenes.chainOf(x, 2, 1, 1, 4, 1);
        int c = Scenes.chainOf(x, 2, 1, 2, 3, 2);
        int b = Scenes.chainOf(x, 1, 1, 1, 4, 1);
        x.give(a);
        x.give(c);
        x.give(b);
        due("7 each finds a way", x.shut(4, 2, 2), 0);
        wayIs("7 the lesser number first", x, a, 1, 0, 1);
        wayIs("7 then the greater", x, b, 1, 0, 1);
        wayIs("7 not in there", x, c, 2, 3, 2);
        due("7 the next one", x.shut(0, 2, 2), 0);
        wayIs("7 first", x, a, 1, 1, 1);
        wayIs("7 second", x, b, 1, 1, 1);
        due("7 not given up by others", x.shut(1, 2, 2), 0);
        wayIs("7 the freer one", x, a, 1, 2, 1);
        wayIs("7 what is left", x, b, 1, 2, 1);
        due("7 one bed in house 3 alone", x.shut(2, 2, 2), 1);
        due("7 the first finds none", x.about(a, 3), 2);
        wayIs("7 the second does", x, b, 1, 3, 1);
    }
}
