/** Sentences about a new object, houses, stages, chores, beds and shut nights (promises 1 to 6). */
public final class HousesBoundsTest {
    private static final int NONE = WalkHouses.NONE, BAD = WalkHouses.BAD, FULL = WalkHouses.FULL;
    private static final Check check = new Check();

    private static void due(String what, long got, long want) {
        check.due(what, got, want);
    }

    public static void main(String[] args) {
        newObject();
        firstOfEach();
        objectsApart();
        call512();
        twelveHouses();
        oneToThreeDorms();
        fortyStages();
        noStageTwice();
        stagesJoinBothWays();
        milesAsTold();
        choresOfAHouse();
        freeOfADorm();
        freeInANight();
        shutInToldNights();
        shutTwice();
        check.end();
    }

    private static void newObject() {
        check.sentence("1: No HOUSES, STAGES, CHAINS, LETTERS, lists; NIGHT 0");
        WalkHouses x = new WalkHouses();
        for (int what = 0; what <= 9; what++) {
            due("count " + what, x.count(what), 0);
        }
        due("digest: h is 17, ten times 31 h and 0", x.digest(), 17L * 31 * 31 * 31 * 31 * 31 * 31 * 31 * 31 * 31 * 31);
    }

    private static void firstOfEach() {
        check.sentence("1: the first of each");
        WalkHouses x = new WalkHouses();
        due("house", x.house(1, 0, 0, 0), 0);
        due("second house", x.house(1, 0, 0, 0), 1);
        due("stage", x.stage(0, 1, 1), 1);
        due("chain", x.chain(1, 0, 0), 0);
        due("letter", x.letter(0, 0, 0), 1);
        due("line", x.list(0, 0), 1);
        due("a chain of now, at NIGHT 0", x.give(0), NONE);
        due("nothing to open", new WalkHouses().open(999), 0);
        due("nobody slept", new WalkHouses().pass(), 0);
    }

    private static void objectsApart() {
        check.sentence("1: a new object has nothing of another");
        WalkHouses x = Twins.after(Scenes::village);
        WalkHouses y = new WalkHouses();
        due("houses", y.count(0), 0);
        due("night", y.count(3), 0);
        due("the other one keeps its houses", x.count(0), Scenes.VILLAGE_HOUSES);
    }

    private static void call512() {
        check.sentence("An object is used for at most 512 calls after it has been made");
        WalkHouses x = Twins.after(Scenes::village);
        WalkHouses y = Twins.after(Scenes::village);
        long digest = y.digest();
        // The village is told in fewer than 112 calls.
        for (int n = 0; n < 400; n++) {
            due("a question among them", x.count(0), Scenes.VILLAGE_HOUSES);
        }
        due("the last calls", x.digest(), digest);
        WalkHouses z = new WalkHouses();
        for (int n = 1; n < 512; n++) {
            due("call " + n, z.house(0, 0, 0, 0), BAD);
        }
        due("call 512", z.house(1, 0, 0, 0), 0);
    }

    private static void twelveHouses() {
        check.sentence("2: HOUSES 0 .. 11 (12 at most): its number; FULL");
        WalkHouses x = new WalkHouses();
        for (int h = 0; h < 12; h++) {
            due("number", x.house(h % 9 + 1, 0, 0, 2 * h), h);
            due("no house behind it", x.free(h + 1, NONE, 0), BAD);
        }
        due("the thirteenth", x.house(1, 1, 1, 1), FULL);
        due("how many", x.count(0), 12);
        for (int h = 0; h < 12; h++) {
            due("each has its own beds", x.free(h, NONE, h), h % 9 + 1);
        }
        due("the last is joined", x.stage(11, 0, 1), 1);
        due("the last is slept in", x.give(x.chain(1, 39, 11)), NONE);
    }

    private static void oneToThreeDorms() {
        check.sentence("2: 1 to 3 DORMS of BEDS (0 to 9 each, not all 0; 0: it has not that one)");
        int[][] beds = {{1, 0, 0}, {0, 1, 0}, {0, 0, 1}, {9, 0, 0}, {0, 9, 0}, {0, 0, 9}, {1, 1, 0}, {0, 9, 9}, {9, 0, 9},
            {1, 1, 1}, {9, 9, 9}, {1, 5, 9}};
        WalkHouses x = new WalkHouses();
        for (int h = 0; h < beds.length; h++) {
            due("number", x.house(beds[h][0], beds[h][1], beds[h][2], 0), h);
            for (int d = 0; d < 3; d++) {
                due("house " + h + " dorm " + d, x.free(h, d, 0), beds[h][d]);
            }
            due("all of house " + h, x.free(h, NONE, 0), beds[h][0] + beds[h][1] + beds[h][2]);
        }
        WalkHouses y = new WalkHouses();
        due("no dorm at all", y.house(0, 0, 0, 0), BAD);
        due("less and more make no house", y.house(-1, 1, 0, 0), BAD);
        due("a sum that wraps", y.house(Integer.MIN_VALUE, Integer.MIN_VALUE, 1, 0), BAD);
        due("a sum that is 0", y.house(-9, 9, 0, 0), BAD);
        due("still none", y.count(0), 0);
    }

    private static void fortyStages() {
        check.sentence("3: STAGES, 40 at most: how many; FULL");
        WalkHouses x = Scenes.houses(12, 1);
        int told = 0;
        for (int a = 0; a < 12; a++) {
            for (int b = a + 1; b < 12; b++) {
                told++;
                due("stage " + a + " " + b, x.stage(a, b, 3), told <= 40 ? told : FULL);
            }
        }
        due("how many", x.count(1), 40);
        // In this order the fortieth joins 4 and 6, the next one would join 4 and 7.
        due("the fortieth joins", x.give(Scenes.chainOf(x, 1, 1, 4, 6)), NONE);
        due("the next does not", x.give(Scenes.chainOf(x, 1, 5, 4, 7)), 1);
    }

    private static void noStageTwice() {
        check.sentence("3: join two HOUSES (none twice); BAD: also one that is there, or from a HOUSE to itself");
        WalkHouses x = Scenes.houses(3, 1);
        due("told", x.stage(0, 1, 5), 1);
        due("again", x.stage(0, 1, 5), BAD);
        due("the other way", x.stage(1, 0, 5), BAD);
        due("with other miles", x.stage(1, 0, 6), BAD);
        due("to itself", x.stage(2, 2, 5), BAD);
        due("one more of the same house", x.stage(2, 1, 5), 2);
        due("of which only one is there", x.stage(2, 0, 5), 3);
    }

    private static void stagesJoinBothWays() {
        check.sentence("3: STAGES join two HOUSES");
        WalkHouses x = Scenes.houses(3, 4);
        x.stage(1, 0, 5);
        due("as told", x.give(Scenes.chainOf(x, 1, 0, 1, 0)), NONE);
        due("the other way", x.give(Scenes.chainOf(x, 1, 0, 0, 1)), NONE);
        due("not a third one", x.give(Scenes.chainOf(x, 1, 0, 0, 2)), 1);
        x.stage(1, 2, 5);
        due("not over a house between", x.give(Scenes.chainOf(x, 1, 0, 0, 2)), 1);
    }

    private static void milesAsTold() {
        check.sentence("3: MILES (1 to 40)");
        WalkHouses x = Scenes.houses(3, 4);
        x.stage(0, 1, 1);
        x.stage(2, 1, 40);
        due("0 miles", x.stage(0, 2, 0), BAD);
        due("41 miles", x.stage(0, 2, 41), BAD);
        due("told again with others", x.stage(0, 1, 30), BAD);
        int k = Scenes.givenOf(x, 1, 0, 0, 1, 2);
        x.arrive(k);
        x.pass();
        x.arrive(k);
        x.pass();
        due("the least", x.about(k, 4), 1);
        x.arrive(k);
        x.pass();
        due("and the most", x.about(k, 4), 41);
    }

    private static void choresOfAHouse() {
        check.sentence("4: CHORES of a HOUSE (0 to 9): what they were");
        WalkHouses x = Scenes.houses(2, 4);
        due("0 at first", x.chores(0, 9), 0);
        due("9", x.chores(0, 9), 9);
        due("10", x.chores(0, 10), BAD);
        due("-1", x.chores(0, -1), BAD);
        due("9 still", x.chores(0, 0), 9);
        due("0", x.chores(0, 1), 0);
        due("another house", x.chores(1, 0), 0);
    }

    private static void freeOfADorm() {
        check.sentence("5: Free BEDS of DORM d (NONE: all; 0 of a DORM that it has not)");
        WalkHouses x = new WalkHouses();
        x.house(0, 2, 0, 0);
        due("dorm 0 that it has not", x.free(0, 0, 0), 0);
        due("dorm 1", x.free(0, 1, 0), 2);
        due("dorm 2 that it has not", x.free(0, 2, 0), 0);
        due("all", x.free(0, NONE, 0), 2);
        due("dorm 3", x.free(0, 3, 0), BAD);
        due("dorm -2", x.free(0, -2, 0), BAD);
        Scenes.givenOf(x, 2, 0, 0);
        due("a full dorm", x.free(0, 1, 0), 0);
        due("a full house", x.free(0, NONE, 0), 0);
    }

    private static void freeInANight() {
        check.sentence("5: BEDS of a DORM are free, as many as nobody is laid in in that NIGHT");
        WalkHouses x = Scenes.houses(1, 5);
        Scenes.givenOf(x, 2, 1, 0);
        Scenes.givenOf(x, 3, 39, 0);
        int given = Scenes.givenOf(x, 1, 1, 0);
        Scenes.chainOf(x, 1, 1, 0);
        due("ahead", x.free(0, 0, 0), 5);
        due("asked ones lie nowhere", x.free(0, 0, 1), 2);
        due("behind", x.free(0, 0, 2), 5);
        due("night 38", x.free(0, 0, 38), 5);
        due("night 39", x.free(0, 0, 39), 2);
        x.giveUp(given);
        due("given up", x.free(0, 0, 1), 3);
        x.pass();
        x.door(0, 2, 0);
        due("walkers too", x.free(0, NONE, 1), 1);
        due("walkers stay one night", x.free(0, NONE, 2), 5);
        x.pass();
        due("as they were in a night that passed", x.free(0, NONE, 1), 1);
        x.house(7, 0, 0, 0);
        due("a house told later, in nights that passed", x.free(1, NONE, 0), 7);
    }

    private static void shutInToldNights() {
        check.sentence("6: A HOUSE is SHUT in told NIGHTS (none at first)");
        WalkHouses x = Scenes.houses(2, 5);
        for (int night = 0; night < 40; night++) {
            due("at first", x.isShut(0, night), 0);
        }
        x.shut(0, 1, 1);
        x.shut(0, 5, 7);
        x.shut(0, 38, 39);
        for (int night = 0; night < 40; night++) {
            boolean told = night == 1 || night >= 5 && night <= 7 || night >= 38;
            due("night " + night, x.isShut(0, night), told ? 1 : 0);
            due("another house, night " + night, x.isShut(1, night), 0);
        }
        Scenes.passes(x, 2);
        due("a night that passed", x.isShut(0, 1), 1);
        due("night -1", x.isShut(0, -1), BAD);
        due("night 40", x.isShut(0, 40), BAD);
    }

    private static void shutTwice() {
        check.sentence("6: told NIGHTS, told in part again");
        WalkHouses x = Scenes.houses(1, 5);
        due("first", x.shut(0, 4, 6), 0);
        due("in part again", x.shut(0, 5, 8), 0);
        for (int night = 0; night < 40; night++) {
            due("night " + night, x.isShut(0, night), night >= 4 && night <= 8 ? 1 : 0);
        }
    }
}
