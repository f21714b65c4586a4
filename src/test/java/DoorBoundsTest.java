/** Sentences about arriving and about walkers at the door (promises 19 and 20). */
public final class DoorBoundsTest {
    private static final int NONE = WalkHouses.NONE, BAD = WalkHouses.BAD, NOT = WalkHouses.NOT;
    private static final Check check = new Check();

    private static void due(String what, long got, long want) {
        check.due(what, got, want);
    }

    public static void main(String[] args) {
        arriveInEachNight();
        arriveOnce();
        arriveInTheLastNight();
        oneToNineWalkers();
        asManyFreeBeds();
        hourOrLater();
        hoursAtTheEnds();
        hourIsAskedOnlyWithoutBeds();
        notWhoArrived();
        greatestNumberFirst();
        justAsManyAsNeeded();
        allOfThemJustDo();
        allOfThemWouldNotDo();
        onlyThoseLaidThereNow();
        bedsOfThisNightAlone();
        walkersAreNotLate();
        doorOfAShutHouse();
        check.end();
    }

    private static void arriveInEachNight() {
        check.sentence("19: In a NIGHT (now) CHAINS that are LAID ARRIVE; NOT: it is not LAID now");
        WalkHouses x = Scenes.houses(1, 4);
        int k = Scenes.givenOf(x, 1, 1, 0, 0);
        int asked = x.chain(1, 1, 0);
        due("the night ahead of its first", x.arrive(k), NOT);
        x.pass();
        due("asked", x.arrive(asked), NOT);
        due("its first", x.arrive(k), 1);
        x.pass();
        due("its last", x.arrive(k), 1);
        x.pass();
        due("the night behind its last", x.arrive(k), NOT);
        due("slept twice", x.about(k, 6), 2);
        int givenUp = Scenes.givenOf(x, 1, 4, 0);
        x.giveUp(givenUp);
        x.pass();
        due("refused", x.arrive(givenUp), NOT);
    }

    private static void arriveOnce() {
        check.sentence("19: NOT: it did ARRIVE");
        WalkHouses x = Scenes.houses(1, 4);
        int k = Scenes.givenOf(x, 1, 0, 0, 0);
        int other = Scenes.givenOf(x, 1, 0, 0);
        due("first", x.arrive(k), 1);
        due("again", x.arrive(k), NOT);
        due("another one", x.arrive(other), 1);
        x.pass();
        due("in the next night", x.arrive(k), 1);
        due("again", x.arrive(k), NOT);
    }

    private static void arriveInTheLastNight() {
        check.sentence("19: in NIGHT 39");
        WalkHouses x = Scenes.houses(1, 4);
        int k = Scenes.givenOf(x, 1, 38, 0, 0);
        Scenes.passes(x, 39);
        due("arrives", x.arrive(k), 1);
        due("again", x.arrive(k), NOT);
        due("it cannot be slept", x.about(k, 6), 0);
    }

    private static void oneToNineWalkers() {
        check.sentence("20: n walkers (1 to 9)");
        WalkHouses x = new WalkHouses();
        x.house(9, 1, 0, 12);
        due("0", x.door(0, 0, 0), BAD);
        due("10", x.door(0, 10, 0), BAD);
        due("9", x.door(0, 9, 0), 0);
        due("1", x.door(0, 1, 0), 0);
        due("laid so far", x.count(9), 10);
    }

    private static void asManyFreeBeds() {
        check.sentence("20: they are LAID, if there are as many free BEDS");
        WalkHouses x = new WalkHouses();
        x.house(2, 2, 1, 12);
        due("one too many", x.door(0, 6, 23), NONE);
        due("nobody is laid", x.free(0, NONE, 0), 5);
        due("not counted", x.count(9), 0);
        due("just as many", x.door(0, 5, 0), 0);
        due("full", x.free(0, NONE, 0), 0);
        due("turned away", x.door(0, 1, 0), NONE);
        due("counted once", x.count(9), 5);
        x.pass();
        due("free in the next night", x.door(0, 5, 0), 0);
    }

    private static void hourOrLater() {
        check.sentence("20: else, if it is the HOUSE's HOUR or later");
        int[] hours = {0, 11, 12, 13, 23};
        int[] answers = {NONE, NONE, 1, 1, 1};
        for (int n = 0; n < hours.length; n++) {
            WalkHouses x = Scenes.houses(1, 2);
            int k = Scenes.givenOf(x, 2, 0, 0);
            due("hour " + hours[n], x.door(0, 2, hours[n]), answers[n]);
            due("is it laid after hour " + hours[n], x.about(k, 20), answers[n] == NONE ? 1 : 0);
            due("walkers", x.count(9), answers[n] == NONE ? 0 : 2);
        }
    }

    private static void hoursAtTheEnds() {
        check.sentence("20: HOUR (0 to 23), at an hour (0 to 23)");
        WalkHouses x = new WalkHouses();
        x.house(1, 0, 0, 0);
        x.house(1, 0, 0, 23);
        Scenes.givenOf(x, 1, 0, 0);
        Scenes.givenOf(x, 1, 0, 1);
        due("hour -1", x.door(0, 1, -1), BAD);
        due("hour 24", x.door(1, 1, 24), BAD);
        due("house of hour 0 at hour 0", x.door(0, 1, 0), 1);
        due("house of hour 23 at hour 22", x.door(1, 1, 22), NONE);
        due("house of hour 23 at hour 23", x.door(1, 1, 23), 1);
    }

    private static void hourIsAskedOnlyWithoutBeds() {
        check.sentence("20: they are LAID, if there are as many free BEDS: at any hour, and nobody loses BEDS");
        WalkHouses x = Scenes.houses(1, 4);
        int k = Scenes.givenOf(x, 2, 0, 0);
        due("ahead of the hour", x.door(0, 1, 0), 0);
        due("behind the hour", x.door(0, 1, 23), 0);
        due("it is laid still", x.about(k, 20), 1);
    }

    private static void notWhoArrived() {
        check.sentence("20: CHAINS that are LAID there now and did not ARRIVE");
        WalkHouses x = Scenes.houses(1, 4);
        int late = Scenes.givenOf(x, 2, 0, 0);
        int here = Scenes.givenOf(x, 2, 0, 0);
        x.arrive(here);
        due("three do not fit", x.door(0, 3, 23), NONE);
        due("two do", x.door(0, 2, 23), 1);
        due("the one that arrived", x.about(here, 20), 1);
        due("the late one", x.about(late, 20), 0);
        due("it comes too late", x.arrive(late), NOT);
        due("nobody is late any more", x.door(0, 1, 23), NONE);
        due("who arrived sleeps", x.pass(), 1);
    }

    private static void greatestNumberFirst() {
        check.sentence("20: the greatest number first");
        WalkHouses x = Scenes.houses(1, 6);
        int[] k = new int[3];
        for (int n = 0; n < 3; n++) {
            k[n] = x.chain(2, 0, 0);
        }
        x.give(k[2]);
        x.give(k[0]);
        x.give(k[1]);
        due("one loses", x.door(0, 1, 12), 1);
        due("the greatest", x.about(k[2], 20), 0);
        due("not the last that was given", x.about(k[1], 20), 1);
        due("a bed is left", x.door(0, 1, 12), 0);
        due("then the next", x.door(0, 2, 12), 1);
        due("lost", x.about(k[1], 20), 0);
        due("the least stays", x.about(k[0], 20), 1);
        due("and loses at last", x.door(0, 1, 12), 1);
    }

    private static void justAsManyAsNeeded() {
        check.sentence("20: just as many as are needed till there are enough free ones");
        for (int n = 1; n <= 9; n++) {
            WalkHouses x = Scenes.houses(1, 9);
            // One bed is free; with chain 2 four are, with chain 1 six, with chain 0 nine.
            Scenes.givenOf(x, 3, 0, 0);
            Scenes.givenOf(x, 2, 0, 0);
            Scenes.givenOf(x, 3, 0, 0);
            int lost = n <= 1 ? 0 : n <= 4 ? 1 : n <= 6 ? 2 : 3;
            due(n + " walkers", x.door(0, n, 12), lost);
            for (int k = 0; k < 3; k++) {
                due(n + " walkers, whether chain " + k + " is laid", x.about(k, 20), k < 3 - lost ? 1 : 0);
            }
        }
    }

    private static void allOfThemJustDo() {
        check.sentence("20: all of them lose their BEDS, if it needs all");
        WalkHouses x = new WalkHouses();
        x.house(3, 3, 3, 12);
        for (int n = 0; n < 9; n++) {
            Scenes.givenOf(x, 1, 0, 0);
        }
        due("nine lose", x.door(0, 9, 12), 9);
        due("full", x.free(0, NONE, 0), 0);
        for (int k = 0; k < 9; k++) {
            due("chain " + k, x.about(k, 20), 0);
        }
    }

    private static void allOfThemWouldNotDo() {
        check.sentence("20: if all of them would not do: none");
        for (int night = 0; night <= 39; night += 13) {
            WalkHouses x = Scenes.houses(1, 9);
            Scenes.passes(x, night);
            int here = Scenes.givenOf(x, 1, night, 0);
            x.arrive(here);
            int[] late = {Scenes.givenOf(x, 3, night, 0), Scenes.givenOf(x, 4, night, 0)};
            due("one too many in night " + night, x.door(0, 9, 12), NONE);
            due("none loses", x.about(late[0], 20), 1);
            due("none loses", x.about(late[1], 20), 1);
            due("a bed is free as it was", x.free(0, NONE, night), 1);
            due("one less in night " + night, x.door(0, 8, 12), 2);
        }
    }

    private static void onlyThoseLaidThereNow() {
        check.sentence("20: CHAINS that are LAID there now: not in another HOUSE, nor in another NIGHT");
        WalkHouses x = Scenes.joinedHouses(2, 2);
        int there = Scenes.givenOf(x, 2, 0, 0, 1);
        int elsewhere = Scenes.givenOf(x, 2, 0, 1, 0);
        int later = Scenes.givenOf(x, 2, 2, 0);
        int asked = x.chain(2, 0, 0);
        due("one loses", x.door(0, 2, 12), 1);
        due("the one that is there", x.about(there, 20), 0);
        due("the one elsewhere", x.about(elsewhere, 20), 1);
        due("the one of a later night", x.about(later, 20), 1);
        due("the one that is asked", x.about(asked, 3), 0);
        due("the other house", x.door(1, 1, 12), 1);
        due("the one that is there", x.about(elsewhere, 20), 0);
        due("a bed is left there", x.free(1, NONE, 0), 1);
        due("none is left here", x.free(0, NONE, 0), 0);
    }

    private static void bedsOfThisNightAlone() {
        check.sentence("20: lose their BEDS of this NIGHT");
        WalkHouses x = Scenes.houses(1, 2);
        int k = Scenes.givenOf(x, 2, 0, 0, 0, 0);
        x.arrive(k);
        x.pass();
        due("one bed is needed, both are lost", x.door(0, 1, 12), 1);
        due("a bed is left", x.free(0, NONE, 1), 1);
        due("the night that passed", x.about(k, 20), 1);
        due("this night", x.about(k, 21), 0);
        due("the next night", x.about(k, 22), 1);
        due("given still", x.about(k, 3), 1);
        x.pass();
        due("not slept", x.about(k, 6), 1);
        due("it arrives in the next", x.arrive(k), 1);
    }

    private static void walkersAreNotLate() {
        check.sentence("20: CHAINS lose their BEDS: walkers do not");
        WalkHouses x = Scenes.houses(1, 2);
        due("laid", x.door(0, 2, 12), 0);
        due("turned away", x.door(0, 1, 23), NONE);
        due("two so far", x.count(9), 2);
    }

    private static void doorOfAShutHouse() {
        check.sentence("20: Nobody comes to the DOOR of a HOUSE that is SHUT; NOT: it is SHUT now");
        WalkHouses x = Scenes.houses(2, 2);
        x.shut(0, 1, 2);
        due("ahead of it", x.door(0, 1, 0), 0);
        x.pass();
        due("its first night", x.door(0, 1, 0), NOT);
        due("another house", x.door(1, 1, 0), 0);
        due("too many are NOT, too", x.door(0, 9, 0), NOT);
        x.pass();
        due("its last night", x.door(0, 1, 23), NOT);
        x.pass();
        due("behind it", x.door(0, 1, 0), 0);
    }
}
