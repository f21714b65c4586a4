/** Sentences about shutting a house and leading chains round (promise 7). */
public final class ShutBoundsTest {
    private static final int NONE = WalkHouses.NONE, BAD = WalkHouses.BAD, NOT = WalkHouses.NOT;
    private static final Check check = new Check();

    private static void due(String what, long got, long want) {
        check.due(what, got, want);
    }

    public static void main(String[] args) {
        behindNow();
        inTheLastNights();
        laidInOneOfThese();
        chainsThatAreGiven();
        byNumbers();
        oneAfterAnother();
        takenOutFirst();
        firstNightBehindNow();
        firstNightIsNow();
        firstNightPassed();
        fromTheHouseOfNow();
        fromNoLesserHouse();
        lastNightIsNow();
        houseOfNowNeedNotBeOpen();
        houseOfNowIsShutLater();
        refusedWhole();
        endsWithNow();
        dormsOfWhoIsNotMet();
        dormsOfAllNightsBehindNow();
        dormOfNow();
        fewestNightsAndLesserHouse();
        howManyFoundNone();
        check.end();
    }

    private static void behindNow() {
        check.sentence("7: SHUTTING a HOUSE from one NIGHT to another (all behind now)");
        WalkHouses x = Scenes.houses(1, 3);
        due("the night now", x.shut(0, 0, 0), BAD);
        due("from now on", x.shut(0, 0, 39), BAD);
        due("ahead of now", x.shut(0, -1, 5), BAD);
        due("the first behind now", x.shut(0, 1, 1), 0);
        due("all behind now", x.shut(0, 1, 39), 0);
        x.pass();
        due("it is now", x.shut(0, 1, 2), BAD);
        due("the next", x.shut(0, 2, 2), 0);
        due("above 39", x.shut(0, 2, 40), BAD);
        due("from above to", x.shut(0, 3, 2), BAD);
        due("the ends of int", x.shut(0, Integer.MAX_VALUE, Integer.MIN_VALUE), BAD);
        due("up to the end of int", x.shut(0, 2, Integer.MAX_VALUE), BAD);
        due("from the end of int", x.shut(0, Integer.MIN_VALUE, 39), BAD);
    }

    private static void inTheLastNights() {
        check.sentence("7: BAD: NIGHTS not behind now, above 39");
        WalkHouses x = Scenes.houses(1, 3);
        Scenes.passes(x, 38);
        due("night 38 is now", x.shut(0, 38, 39), BAD);
        due("night 39 alone", x.shut(0, 39, 39), 0);
        due("it is shut", x.isShut(0, 39), 1);
        x.pass();
        due("no night is behind now", x.shut(0, 39, 39), BAD);
        due("nor above 39", x.shut(0, 40, 40), BAD);
    }

    private static void laidInOneOfThese() {
        check.sentence("7: CHAINS that are LAID there in one of these");
        int[] shutFrom = {4, 5, 6, 7, 4, 3, 6};
        int[] shutTo = {4, 5, 6, 7, 7, 5, 9};
        boolean[] meets = {false, true, true, false, true, true, true};
        for (int n = 0; n < shutFrom.length; n++) {
            WalkHouses x = Scenes.joinedHouses(4, 3);
            int k = Scenes.givenOf(x, 1, 4, 3, 2, 2, 3);
            due("a way is found", x.shut(2, shutFrom[n], shutTo[n]), 0);
            boolean stays = x.about(k, 11) == 2 && x.about(k, 12) == 2;
            check.holds("shut " + shutFrom[n] + " to " + shutTo[n] + " meets it: " + meets[n], stays != meets[n]);
            due("its first stays", x.about(k, 10), 3);
            due("its last stays", x.about(k, 13), 3);
        }
        WalkHouses y = Scenes.joinedHouses(4, 3);
        int k = Scenes.givenOf(y, 1, 4, 3, 2, 2, 3);
        due("another house in its nights", y.shut(0, 4, 7), 0);
        Scenes.wayIs(check, "untouched", y, k, 3, 2, 2, 3);
    }

    private static void chainsThatAreGiven() {
        check.sentence("7: CHAINS that are GIVEN");
        WalkHouses x = Scenes.joinedHouses(3, 3);
        int asked = Scenes.chainOf(x, 1, 4, 0, 1, 0);
        int givenUp = Scenes.givenOf(x, 1, 4, 0, 1, 0);
        x.giveUp(givenUp);
        due("none is given", x.shut(1, 5, 5), 0);
        Scenes.wayIs(check, "asked", x, asked, 0, 1, 0);
        Scenes.wayIs(check, "refused", x, givenUp, 0, 1, 0);
        due("asked still", x.about(asked, 3), 0);
        due("no way for one that is refused is not counted", x.shut(0, 4, 6), 0);
        due("10: its first is shut now", x.give(asked), 0);
    }

    private static void byNumbers() {
        check.sentence("7: CHAINS, by numbers");
        WalkHouses x = Scenes.joinedHouses(3, 2);
        int[] k = new int[2];
        for (int n = 0; n < 2; n++) {
            k[n] = x.chain(1, 1, 2);
            x.add(k[n], 2);
            x.add(k[n], 2);
        }
        // The greater number is given first: that does not matter.
        x.give(k[1]);
        x.give(k[0]);
        Scenes.givenOf(x, 1, 2, 0);
        due("both find a way", x.shut(2, 2, 2), 0);
        Scenes.wayIs(check, "the lesser number has the last bed of the lesser house", x, k[0], 2, 0, 2);
        Scenes.wayIs(check, "the greater number has the next house", x, k[1], 2, 1, 2);
    }

    private static void oneAfterAnother() {
        check.sentence("7: each is taken out of all its NIGHTS, and LAID in them, ahead of the next one");
        WalkHouses x = Scenes.joinedHouses(2, 1);
        int lesser = Scenes.givenOf(x, 1, 2, 1, 0, 1);
        int greater = Scenes.givenOf(x, 1, 3, 1, 0, 1);
        // Both are met; when the lesser number looks for a way, the greater one lies in house 1 still.
        due("the lesser number finds none", x.shut(0, 3, 4), 1);
        due("it is refused", x.about(lesser, 3), 2);
        due("the greater one is given still", x.about(greater, 3), 1);
        Scenes.wayIs(check, "it has the beds that the lesser one left", x, greater, 1, 1, 1);
        WalkHouses y = Scenes.joinedHouses(2, 1);
        int refused = Scenes.givenOf(y, 1, 3, 1, 0);
        int led = Scenes.givenOf(y, 1, 2, 1, 0, 1);
        due("its last house is shut", y.shut(0, 3, 4), 1);
        due("it is refused", y.about(refused, 3), 2);
        Scenes.wayIs(check, "the next has its bed of night 3", y, led, 1, 1, 1);
        WalkHouses z = Scenes.joinedHouses(2, 1);
        Scenes.givenOf(z, 1, 2, 1, 0, 1);
        Scenes.givenOf(z, 1, 3, 1, 0);
        due("by their other numbers neither finds one", z.shut(0, 3, 4), 2);
    }

    private static void takenOutFirst() {
        check.sentence("7: each is taken out of all its NIGHTS behind now: its own BEDS are free for it");
        WalkHouses x = Scenes.joinedHouses(3, 2);
        int k = Scenes.givenOf(x, 2, 1, 2, 1, 2);
        due("a way is found", x.shut(1, 2, 2), 0);
        Scenes.wayIs(check, "its full houses stay its own", x, k, 2, 0, 2);
        due("laid once in the first", x.free(2, NONE, 1), 0);
        due("laid in the new one", x.free(0, NONE, 2), 0);
        due("out of the old one", x.free(1, NONE, 2), 2);
        due("laid once in the last", x.free(2, NONE, 3), 0);
        for (int i = 0; i < 3; i++) {
            due("two people in night " + i, x.laid(k, i, 0), 2);
        }
    }

    private static void firstNightBehindNow() {
        check.sentence("7: of all of it, if its first NIGHT is behind now; if there is none: REFUSED");
        WalkHouses x = Scenes.joinedHouses(3, 2);
        x.pass();
        int k = Scenes.givenOf(x, 1, 2, 1, 0);
        due("its first night is the next one, and shut", x.shut(1, 2, 2), 1);
        due("refused", x.about(k, 3), 2);
        int last = Scenes.givenOf(x, 1, 2, 0, 2);
        due("its last house is shut", x.shut(2, 3, 3), 1);
        due("refused too", x.about(last, 3), 2);
        int middle = Scenes.givenOf(x, 1, 2, 0, 1, 0);
        due("the one between is shut", x.shut(1, 3, 3), 0);
        due("led round", x.about(middle, 3), 1);
        Scenes.wayIs(check, "its way", x, middle, 0, 0, 0);
    }

    private static void firstNightIsNow() {
        check.sentence("7: else of its NIGHTS from now on, where the HOUSE of now stays (its first NIGHT is now)");
        WalkHouses x = Scenes.joinedHouses(3, 2);
        x.pass();
        int round = Scenes.givenOf(x, 1, 1, 2, 1, 2);
        int ends = Scenes.givenOf(x, 1, 1, 2, 1);
        due("one finds none", x.shut(1, 2, 2), 1);
        Scenes.wayIs(check, "led round", x, round, 2, 0, 2);
        Scenes.wayIs(check, "ends with now", x, ends, 2);
        due("given still", x.about(ends, 3), 1);
        due("both lie there now", x.free(2, NONE, 1), 0);
        due("it arrives", x.arrive(ends), 1);
    }

    private static void firstNightPassed() {
        check.sentence("7: else of its NIGHTS from now on: those that passed stay");
        WalkHouses x = Scenes.lineOfHouses(4, 2);
        int k = Scenes.givenOf(x, 2, 0, 3, 2, 1, 0, 1);
        x.arrive(k);
        x.pass();
        x.arrive(k);
        x.pass();
        x.arrive(k);
        due("a way is found", x.shut(0, 3, 3), 0);
        Scenes.wayIs(check, "only what is behind now parts", x, k, 3, 2, 1, 1, 1);
        due("slept in night 0", x.about(k, 20), 1);
        due("two lay there", x.laid(k, 0, 0), 2);
        due("arrived still", x.arrive(k), NOT);
        x.pass();
        due("miles of 3 to 2 and of 2 to 1", x.about(k, 4), 5);
        due("its last house shut", x.shut(1, 4, 4), 1);
        Scenes.wayIs(check, "it ends now", x, k, 3, 2, 1, 1);
        due("three nights slept", x.about(k, 6), 3);
        x.pass();
        due("gone", x.about(k, 3), 3);
        due("miles stay", x.about(k, 4), 5);
    }

    private static void fromTheHouseOfNow() {
        check.sentence("7: of its NIGHTS from now on: from the HOUSE of now, not from its first");
        WalkHouses x = Scenes.lineOfHouses(4, 2);
        int cut = Scenes.givenOf(x, 1, 0, 2, 1, 2, 3);
        x.pass();
        due("from its first house there would be a way", x.shut(2, 2, 2), 1);
        Scenes.wayIs(check, "it ends with now", x, cut, 2, 1);
        WalkHouses y = Scenes.lineOfHouses(3, 2);
        int led = Scenes.givenOf(y, 1, 0, 0, 1, 1, 2);
        y.pass();
        due("from its first house there would be none", y.shut(1, 2, 2), 0);
        Scenes.wayIs(check, "led round", y, led, 0, 1, 2, 2);
        due("laid there", y.free(2, NONE, 2), 1);
    }

    private static void fromNoLesserHouse() {
        check.sentence("7: the HOUSE of now stays, though from a lesser one fewer NIGHTS would part");
        WalkHouses x = Scenes.houses(8, 2);
        // From 5 by 4 and 3 (asked) or by 6 and 7 to 2; from 0 by 1 and 3.
        Scenes.join(x, 5, 4, 4, 3, 3, 2, 5, 6, 6, 7, 7, 2, 0, 1, 1, 3);
        int k = Scenes.givenOf(x, 1, 0, 5, 5, 4, 3, 2);
        x.pass();
        due("led round", x.shut(4, 2, 2), 0);
        Scenes.wayIs(check, "by 6 and 7", x, k, 5, 5, 6, 7, 2);
    }

    private static void lastNightIsNow() {
        check.sentence("7: LAID there in one of these: one whose last NIGHT is now is not");
        WalkHouses x = Scenes.houses(1, 2);
        int k = Scenes.givenOf(x, 2, 0, 0, 0);
        x.pass();
        due("nobody is met", x.shut(0, 2, 39), 0);
        Scenes.wayIs(check, "untouched", x, k, 0, 0);
        due("given", x.about(k, 3), 1);
        x.pass();
        due("it is gone", x.about(k, 3), 3);
        due("gone ones are not met", x.shut(0, 3, 3), 0);
    }

    private static void houseOfNowNeedNotBeOpen() {
        check.sentence("7: the HOUSE of now (it need not be OPEN now, and is not LAID anew)");
        WalkHouses x = Scenes.joinedHouses(3, 2);
        int k = Scenes.givenOf(x, 2, 0, 0, 1, 2);
        due("walkers take its beds", x.door(0, 2, 12), 1);
        due("it has no bed now", x.about(k, 20), 0);
        due("led round", x.shut(1, 1, 1), 0);
        Scenes.wayIs(check, "from the house of now", x, k, 0, 0, 2);
        due("not laid anew now", x.about(k, 20), 0);
        due("laid in the next", x.about(k, 21), 1);
        due("the walkers lie there", x.free(0, NONE, 0), 0);
        due("none arrives", x.arrive(k), NOT);
        WalkHouses y = Scenes.joinedHouses(3, 4);
        int laid = Scenes.givenOf(y, 2, 0, 0, 1, 2);
        due("led round", y.shut(1, 1, 1), 0);
        due("laid once now", y.free(0, NONE, 0), 2);
        due("two lie there", y.laid(laid, 0, 0), 2);
        WalkHouses z = Scenes.joinedHouses(3, 2);
        int cut = Scenes.givenOf(z, 2, 0, 0, 1);
        z.door(0, 2, 12);
        due("without beds now, and without a way", z.shut(1, 1, 1), 1);
        Scenes.wayIs(check, "it ends with now", z, cut, 0);
        due("without a bed", z.about(cut, 20), 0);
    }

    private static void houseOfNowIsShutLater() {
        check.sentence("7: the HOUSE of now stays, though it is SHUT behind now");
        WalkHouses x = Scenes.joinedHouses(3, 2);
        int k = Scenes.givenOf(x, 1, 0, 0, 0, 2);
        due("led round", x.shut(0, 1, 39), 0);
        Scenes.wayIs(check, "now as it was", x, k, 0, 1, 2);
        due("laid now", x.about(k, 20), 1);
    }

    private static void refusedWhole() {
        check.sentence("7: the first sort is REFUSED: out of all its BEDS");
        WalkHouses x = Scenes.lineOfHouses(3, 2);
        int k = Scenes.givenOf(x, 2, 1, 0, 1, 2);
        due("none is found", x.shut(1, 2, 2), 1);
        due("refused", x.about(k, 3), 2);
        due("count", x.count(6), 1);
        for (int i = 0; i < 3; i++) {
            due("not laid in night " + i, x.about(k, 20 + i), 0);
            due("nobody in night " + i, x.laid(k, i, 0), 0);
            due("free in night " + i, x.free(i, NONE, 1 + i), 2);
        }
        due("14: not given", x.giveUp(k), NOT);
        due("10: not asked", x.give(k), NOT);
        due("9: not asked", x.add(k, 0), NOT);
        due("17: not asked", x.letter(k, 0, 0), NOT);
    }

    private static void endsWithNow() {
        check.sentence("7: the others end with NIGHT now (their later HOUSES are gone)");
        WalkHouses x = Scenes.lineOfHouses(3, 2);
        int k = Scenes.givenOf(x, 2, 0, 0, 0, 1, 2);
        x.pass();
        due("none is found", x.shut(1, 2, 2), 1);
        Scenes.wayIs(check, "up to now", x, k, 0, 0);
        due("no house 2", x.about(k, 12), BAD);
        due("no night 2", x.about(k, 22), BAD);
        due("nobody laid in night 2", x.laid(k, 2, 0), BAD);
        due("house 1 is free", x.free(1, NONE, 2), 2);
        due("house 2 is free", x.free(2, NONE, 3), 2);
        due("laid now", x.about(k, 21), 1);
        due("given", x.about(k, 3), 1);
        due("not refused", x.count(6), 0);
        due("met no more", x.shut(2, 3, 3), 0);
        x.arrive(k);
        due("it sleeps", x.pass(), 1);
        due("gone, its last night passed", x.about(k, 3), 3);
    }

    /**
     * House 0 has two dorms of two beds. A chain of two by 0, 1, 0 lies in dorm 1 in its first night,
     * since another one lay in dorm 0, which is given up then.
     */
    private static WalkHouses dormZeroLeft(int first) {
        WalkHouses x = new WalkHouses();
        x.house(2, 2, 0, 12);
        x.house(2, 0, 0, 12);
        x.house(2, 0, 0, 12);
        x.stage(0, 1, 1);
        x.stage(0, 2, 1);
        int leaver = Scenes.givenOf(x, 2, first, 0);
        int k = Scenes.givenOf(x, 2, first, 0, 1, 0);
        x.giveUp(leaver);
        Scenes.laidIs(check, "at first", x, k, 0, 2, 0);
        return x;
    }

    private static void dormsOfWhoIsNotMet() {
        check.sentence("7: CHAINS that are LAID there: who is not keeps its DORMS");
        WalkHouses x = dormZeroLeft(5);
        due("nobody is met", x.shut(2, 5, 7), 0);
        Scenes.laidIs(check, "not laid anew", x, 1, 0, 2, 0);
        due("nobody is met", x.shut(1, 5, 5), 0);
        Scenes.laidIs(check, "nights ahead of its own there", x, 1, 0, 2, 0);
        due("nobody is met", x.shut(1, 7, 9), 0);
        Scenes.laidIs(check, "nights behind its own there", x, 1, 0, 2, 0);
    }

    private static void dormsOfAllNightsBehindNow() {
        check.sentence("7: taken out of all its NIGHTS behind now, and LAID in them");
        WalkHouses x = dormZeroLeft(1);
        due("led round", x.shut(1, 2, 2), 0);
        Scenes.wayIs(check, "its way", x, 1, 0, 0, 0);
        Scenes.laidIs(check, "its first night is laid anew too", x, 1, 2, 0, 0);
        due("dorm 1 is free", x.free(0, 1, 1), 2);
    }

    private static void dormOfNow() {
        check.sentence("7: the HOUSE of now is not LAID anew");
        WalkHouses x = dormZeroLeft(1);
        x.pass();
        due("led round", x.shut(1, 2, 2), 0);
        Scenes.wayIs(check, "its way", x, 1, 0, 0, 0);
        Scenes.laidIs(check, "now it lies where it lay", x, 1, 0, 2, 0);
        due("dorm 0 is free", x.free(0, 0, 1), 2);
        due("dorm 0 in the next night", x.laid(1, 1, 0), 2);
    }

    private static void fewestNightsAndLesserHouse() {
        check.sentence("7: LAID by the OTHER WAY of what is left of it: fewest NIGHTS, then the lesser HOUSE");
        WalkHouses x = Scenes.joinedHouses(5, 2);
        int k = Scenes.givenOf(x, 1, 0, 4, 3, 3, 4);
        Scenes.givenOf(x, 2, 1, 0);
        due("led round", x.shut(3, 1, 1), 0);
        Scenes.wayIs(check, "the least house is full", x, k, 4, 1, 3, 4);
        due("led round again", x.shut(3, 2, 2), 0);
        Scenes.wayIs(check, "it parts from what it had then", x, k, 4, 1, 0, 4);
    }

    private static void howManyFoundNone() {
        check.sentence("7: how many CHAINS found no OTHER WAY");
        WalkHouses x = Scenes.lineOfHouses(2, 9);
        for (int n = 0; n < 3; n++) {
            Scenes.givenOf(x, 1, 2, 0, 1);
        }
        for (int n = 0; n < 2; n++) {
            Scenes.givenOf(x, 1, 0, 0, 0, 0, 1);
        }
        Scenes.givenOf(x, 1, 2, 0, 1, 0);
        due("three refused, two cut, one led round", x.shut(1, 3, 3), 5);
        due("refused", x.count(6), 3);
        due("given", x.count(5), 3);
        due("again: none is met", x.shut(1, 3, 3), 0);
    }
}
