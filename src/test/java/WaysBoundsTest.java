/** Sentences about open ways and other ways: give, other, offered, take (promises 10 to 13). */
public final class WaysBoundsTest {
    private static final int NONE = WalkHouses.NONE, BAD = WalkHouses.BAD, NOT = WalkHouses.NOT;
    private static final Check check = new Check();

    private static void due(String what, long got, long want) {
        check.due(what, got, want);
    }

    public static void main(String[] args) {
        joinedOrTheSame();
        notJoined();
        shutInItsNight();
        asManyBedsAsSize();
        theFirstNightThatBars();
        wholeOrNotAtAll();
        firstNightNow();
        ownIsOpen();
        oneNight();
        twoNights();
        firstAndLastStay();
        fiveOfSeven();
        fewestNights();
        lesserHouseWhereTheyPart();
        lesserHouseInTheEnd();
        stayingIsAWay();
        offeredNights();
        takenWay();
        takenInTheLastNight();
        check.end();
    }

    private static void joinedOrTheSame() {
        check.sentence("each two next to one another are the same HOUSE or joined by a STAGE");
        WalkHouses x = Scenes.lineOfHouses(3, 9);
        due("one night", x.give(Scenes.chainOf(x, 1, 1, 2)), NONE);
        due("the same house", x.give(Scenes.chainOf(x, 1, 1, 0, 0)), NONE);
        due("seven nights in one", x.give(Scenes.chainOf(x, 1, 1, 1, 1, 1, 1, 1, 1, 1)), NONE);
        due("joined", x.give(Scenes.chainOf(x, 1, 1, 0, 1)), NONE);
        due("there and back", x.give(Scenes.chainOf(x, 1, 1, 0, 1, 2, 1, 0, 0, 1)), NONE);
    }

    private static void notJoined() {
        check.sentence("10: the first NIGHT that bars it: not joined with the one ahead");
        WalkHouses x = Scenes.lineOfHouses(4, 9);
        due("the second night", x.give(Scenes.chainOf(x, 1, 1, 0, 2)), 1);
        due("the third", x.give(Scenes.chainOf(x, 1, 1, 0, 1, 3)), 2);
        due("the seventh", x.give(Scenes.chainOf(x, 1, 1, 0, 0, 0, 0, 0, 0, 3)), 6);
        due("two of them", x.give(Scenes.chainOf(x, 1, 1, 0, 2, 0)), 1);
        due("given when joined", x.stage(0, 2, 1), 4);
        due("all of it", x.give(3), NONE);
    }

    private static void shutInItsNight() {
        check.sentence("10: the first NIGHT that bars it: SHUT");
        WalkHouses x = Scenes.lineOfHouses(2, 9);
        x.shut(1, 5, 6);
        due("the night ahead of it", x.give(Scenes.chainOf(x, 1, 4, 1)), NONE);
        due("its first", x.give(Scenes.chainOf(x, 1, 5, 1)), 0);
        due("its last", x.give(Scenes.chainOf(x, 1, 6, 1)), 0);
        due("the night behind it", x.give(Scenes.chainOf(x, 1, 7, 1)), NONE);
        due("its second night", x.give(Scenes.chainOf(x, 1, 4, 1, 1, 1)), 1);
        due("its third night", x.give(Scenes.chainOf(x, 1, 4, 1, 0, 1)), 2);
        due("in another house then", x.give(Scenes.chainOf(x, 1, 4, 1, 0, 0, 1)), NONE);
    }

    private static void asManyBedsAsSize() {
        check.sentence("10: the first NIGHT that bars it: too few free BEDS (as many as SIZE)");
        WalkHouses x = new WalkHouses();
        x.house(4, 4, 4, 0);
        x.house(4, 4, 3, 0);
        x.stage(0, 1, 1);
        due("just as many", x.give(Scenes.chainOf(x, 12, 1, 0)), NONE);
        due("one too few", x.give(Scenes.chainOf(x, 12, 1, 1)), 0);
        due("none left", x.give(Scenes.chainOf(x, 1, 1, 0)), 0);
        due("eleven", x.give(Scenes.chainOf(x, 11, 2, 0, 1)), NONE);
        due("the one left", x.give(Scenes.chainOf(x, 1, 2, 0)), NONE);
        due("the second night", x.give(Scenes.chainOf(x, 1, 2, 1, 1)), 1);
        due("the third night", x.give(Scenes.chainOf(x, 12, 5, 0, 0, 1)), 2);
    }

    private static void theFirstNightThatBars() {
        check.sentence("10: the first NIGHT (counted from 0 in it) that bars it");
        WalkHouses x = Scenes.lineOfHouses(4, 2);
        x.shut(1, 11, 11);
        Scenes.givenOf(x, 2, 12, 2);
        int k = Scenes.chainOf(x, 1, 10, 0, 1, 2, 0);
        due("shut, full, not joined", x.give(k), 1);
        int later = Scenes.chainOf(x, 1, 11, 2, 2, 0);
        due("full, not joined", x.give(later), 1);
        int last = Scenes.chainOf(x, 1, 13, 2, 2, 0);
        due("not joined", x.give(last), 2);
        due("not joined, and shut in it", x.give(Scenes.chainOf(x, 1, 10, 3, 1)), 1);
        due("too few from the first on", x.give(Scenes.chainOf(x, 3, 20, 0, 3)), 0);
        due("it stays ASKED", x.about(k, 3), 0);
        due("and is barred again", x.give(k), 1);
        due("and has a house more", x.add(k, 0), 5);
    }

    private static void wholeOrNotAtAll() {
        check.sentence("A CHAIN is GIVEN, if its WAY is OPEN: it is LAID in all its NIGHTS");
        WalkHouses x = Scenes.lineOfHouses(2, 3);
        x.shut(1, 8, 8);
        int k = Scenes.chainOf(x, 2, 2, 0, 0, 0, 0, 0, 0, 1);
        due("barred in the last", x.give(k), 6);
        for (int i = 0; i < 7; i++) {
            due("not laid in night " + i, x.about(k, 20 + i), 0);
            due("all beds are free", x.free(i < 6 ? 0 : 1, NONE, 2 + i), 3);
        }
        int open = Scenes.chainOf(x, 2, 1, 0, 0, 0, 0, 0, 0, 1);
        due("given", x.give(open), NONE);
        due("how it is", x.about(open, 3), 1);
        for (int i = 0; i < 7; i++) {
            due("laid in night " + i, x.about(open, 20 + i), 1);
            due("two lie there", x.free(i < 6 ? 0 : 1, NONE, 1 + i), 1);
        }
        due("the night ahead", x.free(0, NONE, 0), 3);
        due("the night behind", x.free(1, NONE, 8), 3);
    }

    private static void firstNightNow() {
        check.sentence("10: NOT: its first NIGHT is ahead of now");
        WalkHouses x = Scenes.lineOfHouses(2, 3);
        int ahead = Scenes.chainOf(x, 1, 4, 0, 0);
        int now = Scenes.chainOf(x, 1, 5, 0);
        int taken = Scenes.chainOf(x, 1, 5, 0);
        Scenes.passes(x, 5);
        due("ahead of now, though its last is now", x.give(ahead), NOT);
        due("other", x.other(ahead), NOT);
        due("offered", x.offered(ahead, 1), NOT);
        due("take", x.take(ahead), NOT);
        due("other of now", x.other(now), 0);
        due("offered of now", x.offered(now, 0), 0);
        due("give of now", x.give(now), NONE);
        due("take of now", x.take(taken), 0);
        Scenes.passes(x, 34);
        due("in night 39", x.give(Scenes.chainOf(x, 1, 39, 0)), NONE);
    }

    private static void ownIsOpen() {
        check.sentence("11: 0: its own is OPEN");
        WalkHouses x = Scenes.joinedHouses(4, 3);
        int k = Scenes.chainOf(x, 3, 1, 3, 2, 3, 2);
        due("own", x.other(k), 0);
        int[] way = {3, 2, 3, 2};
        for (int i = 0; i < way.length; i++) {
            due("12: its own, though lesser houses are open", x.offered(k, i), way[i]);
        }
    }

    private static void oneNight() {
        check.sentence("11: the same first and last HOUSE: one NIGHT has no OTHER WAY but its own");
        WalkHouses x = Scenes.joinedHouses(3, 3);
        int k = x.chain(3, 1, 1);
        due("open", x.other(k), 0);
        Scenes.givenOf(x, 1, 1, 1);
        due("too few beds", x.other(k), NONE);
        due("12: there is none", x.offered(k, 0), NONE);
        due("13: there is none", x.take(k), NONE);
    }

    private static void twoNights() {
        check.sentence("11: the same first and last HOUSE: two NIGHTS have no OTHER WAY but their own");
        WalkHouses x = Scenes.joinedHouses(3, 3);
        int k = Scenes.chainOf(x, 3, 1, 0, 1);
        due("open", x.other(k), 0);
        x.shut(1, 2, 2);
        due("the last is shut", x.other(k), NONE);
        int back = Scenes.chainOf(x, 3, 2, 1, 0);
        due("the first is shut", x.other(back), NONE);
        due("12: the first", x.offered(back, 0), NONE);
        due("12: the last", x.offered(back, 1), NONE);
    }

    private static void firstAndLastStay() {
        check.sentence("of all OPEN WAYS with the same first and last HOUSE");
        WalkHouses x = Scenes.joinedHouses(4, 3);
        int k = Scenes.chainOf(x, 2, 4, 1, 2, 3);
        int full = Scenes.givenOf(x, 2, 4, 1);
        due("its first is full", x.other(k), NONE);
        x.giveUp(full);
        due("free again", x.other(k), 0);
        Scenes.givenOf(x, 2, 6, 3);
        due("its last is full", x.other(k), NONE);
        Scenes.givenOf(x, 2, 15, 2);
        int middle = Scenes.chainOf(x, 2, 14, 1, 2, 3);
        due("the one between is full", x.other(middle), 1);
        due("12: the lesser house", x.offered(middle, 1), 0);
    }

    /** From 0 to 6 by 1 to 5, or by 7 to 11. */
    private static WalkHouses twoRoads() {
        WalkHouses x = Scenes.houses(12, 2);
        Scenes.join(x, 0, 1, 1, 2, 2, 3, 3, 4, 4, 5, 5, 6, 0, 7, 7, 8, 8, 9, 9, 10, 10, 11, 11, 6);
        return x;
    }

    private static void fiveOfSeven() {
        check.sentence("11: How many NIGHTS of the OTHER WAY are in other HOUSES: five of seven at most");
        WalkHouses x = twoRoads();
        int k = Scenes.chainOf(x, 2, 1, 0, 1, 2, 3, 4, 5, 6);
        due("its own", x.other(k), 0);
        x.shut(3, 4, 4);
        due("all but the first and the last", x.other(k), 5);
        int[] way = {0, 7, 8, 9, 10, 11, 6};
        for (int i = 0; i < 7; i++) {
            due("12: night " + i, x.offered(k, i), way[i]);
        }
        due("13: nights changed", x.take(k), 5);
        Scenes.wayIs(check, "13: its way", x, k, way);
        int next = Scenes.chainOf(x, 1, 1, 0, 1, 2, 3, 4, 5, 6);
        due("the house of the first is full", x.other(next), NONE);
        int shorter = Scenes.chainOf(x, 1, 10, 0, 1, 2, 3, 4, 6);
        due("six nights are too few for either", x.other(shorter), NONE);
    }

    private static void fewestNights() {
        check.sentence("those that part from its WAY in the fewest NIGHTS");
        WalkHouses x = Scenes.houses(7, 2);
        // From 5 to 6 by 3 and 4 (asked), by 0 and 1, or by 2 and 4.
        Scenes.join(x, 5, 3, 3, 4, 4, 6, 5, 0, 0, 1, 1, 6, 5, 2, 2, 4);
        int k = Scenes.chainOf(x, 1, 1, 5, 3, 4, 6);
        x.shut(3, 2, 2);
        due("one night, not two by lesser houses", x.other(k), 1);
        due("12: the one that parts", x.offered(k, 1), 2);
        due("12: the one that stays", x.offered(k, 2), 4);
        x.shut(2, 2, 2);
        due("two nights", x.other(k), 2);
        due("12: the first of them", x.offered(k, 1), 0);
        due("12: the second of them", x.offered(k, 2), 1);
        x.shut(1, 3, 3);
        due("no way more", x.other(k), NONE);
    }

    private static void lesserHouseWhereTheyPart() {
        check.sentence("of these the one with the lesser HOUSE where they part first");
        WalkHouses x = Scenes.houses(8, 2);
        // From 7 to 6: by 1 and 5, or by 2 and 0; both part in two nights from 3 and 4.
        Scenes.join(x, 7, 3, 3, 4, 4, 6, 7, 1, 1, 5, 5, 6, 7, 2, 2, 0, 0, 6);
        int k = Scenes.chainOf(x, 1, 1, 7, 3, 4, 6);
        x.shut(4, 3, 3);
        due("two nights", x.other(k), 2);
        due("12: the lesser where they part first", x.offered(k, 1), 1);
        due("12: the greater behind it", x.offered(k, 2), 5);
    }

    private static void lesserHouseInTheEnd() {
        check.sentence("of these the one with the lesser HOUSE, though its own number is the least");
        WalkHouses x = Scenes.joinedHouses(4, 2);
        // Night 2 alone or night 3 alone cannot part: 0 is shut in both.
        int k = Scenes.chainOf(x, 1, 1, 3, 0, 0, 3);
        x.shut(0, 2, 3);
        due("two nights", x.other(k), 2);
        due("12: the lesser one twice", x.offered(k, 1), 1);
        due("12: the lesser one twice", x.offered(k, 2), 1);
        Scenes.givenOf(x, 2, 3, 1);
        due("12: it is full then", x.offered(k, 1), 1);
        due("12: the next", x.offered(k, 2), 2);
        int early = Scenes.chainOf(x, 1, 10, 3, 1, 2, 3);
        x.shut(1, 11, 11);
        due("the lesser house goes ahead of an own one later", x.other(early), 1);
        due("12: 0, not 2 or 3", x.offered(early, 1), 0);
    }

    private static void stayingIsAWay() {
        check.sentence("a WAY is OPEN, if two next to one another are the same HOUSE");
        WalkHouses x = Scenes.lineOfHouses(3, 2);
        int k = Scenes.chainOf(x, 1, 1, 0, 1, 0);
        x.shut(1, 2, 2);
        due("it stays where it is", x.other(k), 1);
        due("12: the same house", x.offered(k, 1), 0);
        int on = Scenes.chainOf(x, 1, 1, 0, 1, 1, 2);
        due("a night later", x.other(on), 1);
        due("12: first it stays", x.offered(on, 1), 0);
        due("12: then it goes", x.offered(on, 2), 1);
        Scenes.givenOf(x, 2, 2, 0);
        due("too few beds to stay", x.other(k), NONE);
        due("too few beds to stay", x.other(on), NONE);
    }

    private static void offeredNights() {
        check.sentence("12: The HOUSE of its NIGHT i by that. BAD");
        WalkHouses x = Scenes.joinedHouses(3, 2);
        int k = Scenes.chainOf(x, 1, 33, 2, 2, 2, 2, 2, 2, 2);
        due("night 0", x.offered(k, 0), 2);
        due("night 6", x.offered(k, 6), 2);
        due("night 7", x.offered(k, 7), BAD);
        due("night -1", x.offered(k, -1), BAD);
        x.shut(2, 39, 39);
        for (int i = 0; i < 7; i++) {
            due("there is none", x.offered(k, i), NONE);
        }
        int one = x.chain(1, 5, 0);
        due("its only night", x.offered(one, 0), 0);
        due("behind its only night", x.offered(one, 1), BAD);
        x.add(one, 1);
        due("a house more", x.offered(one, 1), 1);
    }

    private static void takenWay() {
        check.sentence("13: Its WAY becomes the OTHER one, and it is GIVEN: NIGHTS changed");
        WalkHouses x = Scenes.joinedHouses(3, 2);
        int own = Scenes.chainOf(x, 2, 1, 2, 2, 2);
        due("its own", x.take(own), 0);
        due("given", x.about(own, 3), 1);
        Scenes.wayIs(check, "its way", x, own, 2, 2, 2);
        int blocked = Scenes.chainOf(x, 1, 0, 2, 2, 2, 2, 2);
        due("three full nights between", x.take(blocked), 3);
        Scenes.wayIs(check, "its way", x, blocked, 2, 0, 0, 0, 2);
        due("laid in the other one", x.free(0, NONE, 1), 1);
        due("not in its own", x.free(2, NONE, 1), 0);
        due("taken twice", x.take(blocked), NOT);
        int without = Scenes.chainOf(x, 1, 3, 2);
        due("there is none", x.take(without), NONE);
        due("it stays ASKED", x.about(without, 3), 0);
        due("not laid", x.about(without, 20), 0);
    }

    private static void takenInTheLastNight() {
        check.sentence("13: a WAY that ends with NIGHT 39");
        WalkHouses x = Scenes.joinedHouses(3, 2);
        x.shut(1, 38, 38);
        int k = Scenes.chainOf(x, 2, 37, 1, 1, 1);
        due("one night", x.take(k), 1);
        due("laid in night 39", x.free(1, NONE, 39), 0);
        due("laid in night 38", x.free(0, NONE, 38), 0);
        int second = Scenes.chainOf(x, 1, 38, 2, 1);
        due("full in night 39", x.take(second), NONE);
    }
}
