/** Sentences about asking for chains, giving them up, and what is told of them (promises 8, 9, 14 to 16). */
public final class ChainsBoundsTest {
    private static final int NONE = WalkHouses.NONE, BAD = WalkHouses.BAD, NOT = WalkHouses.NOT, FULL = WalkHouses.FULL;
    private static final Check check = new Check();

    private static void due(String what, long got, long want) {
        check.due(what, got, want);
    }

    public static void main(String[] args) {
        fortyChains();
        sizes();
        firstNights();
        oneToSevenHouses();
        beyondNight39();
        oneANight();
        addToWhatIsAsked();
        giveUpAheadOfItsFirst();
        greatestNotice();
        latestToldOfLikeOnes();
        noticeEdges();
        outOfItsBeds();
        howItIs();
        milesSleptAtBothEnds();
        milesOfSevenNights();
        laidOrSlept();
        laidInDorms();
        check.end();
    }

    private static void fortyChains() {
        check.sentence("8: CHAINS 0 .. 39 (40 at most): its number; FULL");
        WalkHouses x = Scenes.houses(1, 9);
        for (int k = 0; k < 40; k++) {
            due("no such chain yet", x.about(k, 3), BAD);
            due("number", x.chain(1, k, 0), k);
            due("ASKED", x.about(k, 3), 0);
        }
        due("the next", x.chain(1, 0, 0), FULL);
        due("how many", x.count(2), 40);
        for (int k = 0; k < 40; k++) {
            due("each has its own night", x.about(k, 1), k);
        }
        due("the last is given", x.give(39), NONE);
        due("given up ones leave no room", x.giveUp(39), 0);
        due("full still", x.chain(1, 0, 0), FULL);
    }

    private static void sizes() {
        check.sentence("8: SIZE (1 to 12)");
        WalkHouses x = new WalkHouses();
        x.house(9, 9, 9, 0);
        due("0", x.chain(0, 0, 0), BAD);
        due("13", x.chain(13, 0, 0), BAD);
        due("1", x.chain(1, 0, 0), 0);
        due("12", x.chain(12, 0, 0), 1);
        due("size 1", x.about(0, 0), 1);
        due("size 12", x.about(1, 0), 12);
        x.give(0);
        x.give(1);
        due("both are laid", x.free(0, NONE, 0), 14);
    }

    private static void firstNights() {
        check.sentence("8: BAD: first NIGHT 0 to 39, not ahead of now");
        WalkHouses x = Scenes.houses(1, 9);
        due("-1", x.chain(1, -1, 0), BAD);
        due("40", x.chain(1, 40, 0), BAD);
        due("0, which is now", x.chain(1, 0, 0), 0);
        due("39", x.chain(1, 39, 0), 1);
        Scenes.passes(x, 3);
        due("ahead of now", x.chain(1, 2, 0), BAD);
        due("now", x.chain(1, 3, 0), 2);
        Scenes.passes(x, 36);
        due("38 in night 39", x.chain(1, 38, 0), BAD);
        due("39 in night 39", x.chain(1, 39, 0), 3);
    }

    private static void oneToSevenHouses() {
        check.sentence("9: 1 to 7 HOUSES: how many it has; FULL: 7");
        WalkHouses x = Scenes.houses(2, 9);
        int k = x.chain(1, 0, 1);
        due("one at first", x.about(k, 2), 1);
        for (int n = 2; n <= 7; n++) {
            due("no house there yet", x.about(k, 10 + n - 1), BAD);
            due("how many", x.add(k, n % 2), n);
            due("its house", x.about(k, 10 + n - 1), n % 2);
        }
        due("the eighth", x.add(k, 0), FULL);
        due("seven still", x.about(k, 2), 7);
        due("no house 7", x.about(k, 17), BAD);
    }

    private static void beyondNight39() {
        check.sentence("9: BAD: also beyond NIGHT 39");
        WalkHouses x = Scenes.houses(1, 9);
        int at39 = x.chain(1, 39, 0);
        due("from night 39", x.add(at39, 0), BAD);
        int at38 = x.chain(1, 38, 0);
        due("from night 38", x.add(at38, 0), 2);
        due("one too many", x.add(at38, 0), BAD);
        int at33 = x.chain(1, 33, 0);
        for (int n = 2; n <= 7; n++) {
            due("from night 33", x.add(at33, 0), n);
        }
        due("beyond goes ahead of seven", x.add(at33, 0), BAD);
        int at32 = Scenes.chainOf(x, 1, 32, 0, 0, 0, 0, 0, 0, 0);
        due("seven, and a night more", x.add(at32, 0), FULL);
        due("all seven are given", x.give(at33), NONE);
    }

    private static void oneANight() {
        check.sentence("8: 1 to 7 HOUSES, one a NIGHT from that on");
        WalkHouses x = Scenes.joinedHouses(4, 9);
        Scenes.givenOf(x, 4, 10, 3, 1, 2);
        int[] houses = {3, 1, 2};
        for (int h = 0; h < 4; h++) {
            for (int night = 9; night <= 13; night++) {
                boolean there = night >= 10 && night <= 12 && houses[night - 10] == h;
                due("house " + h + " night " + night, x.free(h, NONE, night), there ? 5 : 9);
            }
        }
    }

    private static void addToWhatIsAsked() {
        check.sentence("9: NOT: it is not ASKED");
        WalkHouses x = Scenes.houses(1, 2);
        int k = x.chain(1, 0, 0);
        x.pass();
        due("asked, though its first night passed", x.add(k, 0), 2);
        int barred = x.chain(3, 1, 0);
        x.give(barred);
        due("barred ones stay asked", x.add(barred, 0), 2);
        int given = Scenes.givenOf(x, 1, 1, 0);
        due("given", x.add(given, 0), NOT);
        x.pass();
        due("gone", x.add(given, 0), NOT);
        x.letter(k, 0, 0);
        x.open(0);
        due("refused", x.add(k, 0), NOT);
    }

    private static void giveUpAheadOfItsFirst() {
        check.sentence("14: NOT: it is not GIVEN, or its first NIGHT is not behind now");
        WalkHouses x = Scenes.houses(1, 9);
        int next = Scenes.givenOf(x, 1, 1, 0);
        int now = Scenes.givenOf(x, 1, 0, 0, 0);
        due("its first night is now", x.giveUp(now), NOT);
        due("its first night is the next", x.giveUp(next), 0);
        due("given up already", x.giveUp(next), NOT);
        int later = Scenes.givenOf(x, 1, 1, 0);
        x.pass();
        due("it was the next, and is now", x.giveUp(later), NOT);
        due("its first night passed", x.giveUp(now), NOT);
        due("asked", x.giveUp(x.chain(1, 9, 0)), NOT);
        due("given in night 39", x.giveUp(Scenes.givenOf(x, 1, 39, 0)), 0);
    }

    private static void greatestNotice() {
        check.sentence("14: NOTICE is not above how many NIGHTS are left till its first, the greatest NOTICE; 0 without");
        int[] notices = {7, 3, 5};
        int[] hundredths = {70, 100, 50};
        int[] paid = {0, 0, 100, 100, 50, 50, 70, 70};
        WalkHouses x = Scenes.houses(1, 9);
        for (int n = 0; n < 3; n++) {
            x.list(notices[n], hundredths[n]);
        }
        x.pass();
        for (int left = 1; left <= 8; left++) {
            due(left + " nights are left", x.giveUp(Scenes.givenOf(x, 1, 1 + left, 0)), paid[left - 1]);
        }
    }

    private static void latestToldOfLikeOnes() {
        check.sentence("14: of like ones the latest told");
        WalkHouses x = Scenes.houses(1, 9);
        x.list(2, 80);
        x.list(2, 20);
        x.list(1, 100);
        due("the latest, not the most", x.giveUp(Scenes.givenOf(x, 1, 2, 0)), 20);
        x.list(2, 90);
        due("told since", x.giveUp(Scenes.givenOf(x, 1, 2, 0)), 90);
        x.list(2, 0);
        due("0 is told too", x.giveUp(Scenes.givenOf(x, 1, 2, 0)), 0);
        due("one of less notice", x.giveUp(Scenes.givenOf(x, 1, 1, 0)), 100);
    }

    private static void noticeEdges() {
        check.sentence("14: NOTICE (0 to 39), hundredths (0 to 100)");
        WalkHouses x = Scenes.houses(1, 9);
        due("without a line", x.giveUp(Scenes.givenOf(x, 1, 39, 0)), 0);
        x.list(39, 100);
        due("38 nights are left", x.giveUp(Scenes.givenOf(x, 1, 38, 0)), 0);
        due("39 nights are left", x.giveUp(Scenes.givenOf(x, 1, 39, 0)), 100);
        x.list(0, 1);
        due("notice 0 fits all", x.giveUp(Scenes.givenOf(x, 1, 1, 0)), 1);
        due("notice 39 is the greater", x.giveUp(Scenes.givenOf(x, 1, 39, 0)), 100);
        x.pass();
        due("38 nights are left now", x.giveUp(Scenes.givenOf(x, 1, 39, 0)), 1);
        for (int n = 3; n <= 20; n++) {
            x.list(n == 20 ? 5 : 4, n);
        }
        due("the twentieth line", x.giveUp(Scenes.givenOf(x, 1, 6, 0)), 20);
        due("the nineteenth", x.giveUp(Scenes.givenOf(x, 1, 5, 0)), 19);
    }

    private static void outOfItsBeds() {
        check.sentence("14: It is REFUSED then, and out of its BEDS");
        WalkHouses x = Scenes.joinedHouses(2, 3);
        int k = Scenes.givenOf(x, 3, 1, 0, 0, 0, 1, 1, 1, 1);
        due("given up", x.giveUp(k), 0);
        due("refused", x.about(k, 3), 2);
        for (int i = 0; i < 7; i++) {
            due("free in night " + i, x.free(i < 3 ? 0 : 1, NONE, 1 + i), 3);
            due("not laid in night " + i, x.about(k, 20 + i), 0);
        }
        Scenes.wayIs(check, "its houses are told still", x, k, 0, 0, 0, 1, 1, 1, 1);
        due("the beds are given anew", x.give(Scenes.chainOf(x, 3, 1, 0)), NONE);
        due("not asked any more", x.give(k), NOT);
    }

    private static void howItIs() {
        check.sentence("15: 3 how it is: ASKED (0), GIVEN (1), REFUSED (2), GONE (3)");
        WalkHouses x = Scenes.houses(1, 9);
        int k = x.chain(2, 0, 0);
        due("asked", x.about(k, 3), 0);
        x.give(k);
        due("given", x.about(k, 3), 1);
        x.pass();
        due("gone", x.about(k, 3), 3);
        int second = Scenes.givenOf(x, 1, 5, 0);
        x.giveUp(second);
        due("refused", x.about(second, 3), 2);
        int[] fresh = {2, 0, 1, 3, 0, 0, 0};
        for (int what = 0; what <= 6; what++) {
            due("about " + what + " of one that never arrived", x.about(k, what), fresh[what]);
        }
    }

    private static void milesSleptAtBothEnds() {
        check.sentence("15: MILES: between two NIGHTS next to one another, both SLEPT, in different HOUSES");
        // Which of four nights 0 - 1 - 1 - 2 are slept, and the miles: 1 of the first stage, 2 of the second.
        int[] slept = {0b0000, 0b0001, 0b0010, 0b0011, 0b0110, 0b0111, 0b1011, 0b1100, 0b1101, 0b1001, 0b1111};
        int[] miles = {0, 0, 0, 1, 0, 1, 1, 2, 2, 0, 3};
        for (int n = 0; n < slept.length; n++) {
            WalkHouses x = Scenes.lineOfHouses(3, 2);
            int k = Scenes.givenOf(x, 1, 0, 0, 1, 1, 2);
            for (int night = 0; night < 4; night++) {
                if ((slept[n] >> night & 1) == 1) {
                    x.arrive(k);
                }
                x.pass();
            }
            due("slept " + Integer.toBinaryString(slept[n]), x.about(k, 4), miles[n]);
            due("nights slept", x.about(k, 6), Integer.bitCount(slept[n]));
        }
        WalkHouses y = Scenes.lineOfHouses(2, 2);
        int k = Scenes.givenOf(y, 1, 0, 0, 1);
        y.arrive(k);
        y.pass();
        y.arrive(k);
        due("arrived is not slept yet", y.about(k, 4), 0);
        due("one night slept", y.about(k, 6), 1);
        y.pass();
        due("slept at both ends", y.about(k, 4), 1);
    }

    private static void milesOfSevenNights() {
        check.sentence("15: MILES, NIGHTS SLEPT of the longest CHAIN, up to the last NIGHT that passes");
        WalkHouses x = Scenes.lineOfHouses(8, 2);
        int k = Scenes.givenOf(x, 1, 32, 0, 1, 2, 3, 4, 5, 6);
        Scenes.passes(x, 32);
        int miles = 0;
        for (int i = 0; i < 7; i++) {
            x.arrive(k);
            due("slept", x.pass(), 1);
            miles += i;
            due("miles up to night " + i, x.about(k, 4), miles);
            due("nights slept", x.about(k, 6), i + 1);
        }
        due("gone in night 39", x.about(k, 3), 3);
    }

    private static void laidOrSlept() {
        check.sentence("15: 20 + i whether it is LAID in NIGHT i of it (or was SLEPT; 1, 0)");
        WalkHouses x = Scenes.houses(1, 2);
        int k = Scenes.chainOf(x, 2, 0, 0, 0, 0);
        due("asked", x.about(k, 20), 0);
        x.give(k);
        due("given", x.about(k, 20), 1);
        due("its last", x.about(k, 22), 1);
        due("behind its last", x.about(k, 23), BAD);
        x.arrive(k);
        x.pass();
        due("slept", x.about(k, 20), 1);
        due("it loses tonight's beds", x.door(0, 1, 12), 1);
        due("lost", x.about(k, 21), 0);
        x.pass();
        due("lost, and passed", x.about(k, 21), 0);
        due("its last still", x.about(k, 22), 1);
        x.arrive(k);
        x.pass();
        due("slept, and gone", x.about(k, 22), 1);
    }

    private static void laidInDorms() {
        check.sentence("16: How many of a CHAIN are laid in DORM d in NIGHT i (0 of a DORM that its HOUSE has not)");
        WalkHouses x = new WalkHouses();
        x.house(0, 2, 1, 12);
        int k = Scenes.givenOf(x, 3, 0, 0, 0);
        int other = Scenes.chainOf(x, 3, 5, 0);
        due("a dorm that it has not", x.laid(k, 0, 0), 0);
        due("dorm 1", x.laid(k, 0, 1), 2);
        due("dorm 2", x.laid(k, 0, 2), 1);
        due("dorm 3", x.laid(k, 0, 3), BAD);
        due("dorm -1 is not all", x.laid(k, 0, NONE), BAD);
        due("its last night", x.laid(k, 1, 1), 2);
        due("behind its last night", x.laid(k, 2, 1), BAD);
        due("asked ones lie nowhere", x.laid(other, 0, 1), 0);
        due("three walkers take its beds", x.door(0, 3, 12), 1);
        due("out of them", x.laid(k, 0, 1), 0);
        due("in the next night still", x.laid(k, 1, 1), 2);
    }
}
